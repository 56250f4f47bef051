theorem dX1_begin_0 : decode cX1_begin 0 = .ok (.aload_n 0, 1) := by decide +kernel
theorem dX1_begin_1 : decode cX1_begin 1 = .ok (.iconst 0, 1) := by decide +kernel
theorem dX1_begin_2 : decode cX1_begin 2 = .ok (.putfield 9, 3) := by decide +kernel
set_option maxRecDepth 100000 in
theorem wf_X1_9 : Cond.fieldLink RX1 9 "StoneTrust$Range" "any" "Z" ∈ gw := gm (List.mem_of_getElem? (i := 523) (by decide +kernel)) rfl
theorem dX1_begin_5 : decode cX1_begin 5 = .ok (.return_, 1) := by decide +kernel
set_option maxHeartbeats 4000000 in
set_option maxRecDepth 100000 in
theorem c1_X1_begin (l : Launch) (G : va_G) (cI cJ cB cZ : ClassId) (a0 : Nat) (v_ra_0 : Int32) (v_ra_1 : Int32) (v_ra_2 : Int32) (v_ra_3 : Int32) (v_ra_4 : Int32) (hv_0 : 0 ≤ v_ra_0.toInt) (hv_1 : v_ra_0.toInt ≤ 1) : Con l G (TY cI cJ cB cZ) yX1_begin cX1_begin 1 none ({ frames := 0, cells := 0, slots := 0, locals := 0 } : Room) [.ref a0] [(a0, .inr (1, [.int v_ra_0, .int v_ra_1, .int v_ra_2, .int v_ra_3, .int v_ra_4]))] (QV G (TY cI cJ cB cZ) (fun u : Int32 => (0 ≤ u.toInt ∧ u.toInt ≤ 0)) (fun u : Int32 => [(a0, .inr (1, [.int u, .int v_ra_1, .int v_ra_2, .int v_ra_3, .int v_ra_4]))])) := by
  refine k_met (by decide) (Nat.le_of_ble_eq_true rfl) ?_
  intro p e s m below meth c A ls hC hr hlk hnm hN hZ hK hA hP hD hS hl
  have hl : lv_has ls 1 [(0, .ref a0)] := hl
  generalize hQm : MQ below _ _ s _ _ A = Qm
  generalize (List.toArray _ : Array Value) = args at hC hQm ⊢
  obtain ⟨hx, hb, hml, hown, hts⟩ := id hC
  obtain ⟨H, hH⟩ : ∃ q, q = s.heap := ⟨_, rfl⟩
  obtain ⟨locs, hlo⟩ : ∃ q : List Loc, q = [] := ⟨_, rfl⟩
  have hP : va_P G cl [(a0, .inr (1, [.int v_ra_0, .int v_ra_1, .int v_ra_2, .int v_ra_3, .int v_ra_4]))] H := by rw [hH]; exact hP
  have hS : va_S A s.heap H locs := by rw [hH, hlo]; exact hS
  rw [← hlo]
  rw [← hH]
  refine lv_aload_n hx hb dX1_begin_0 rfl (lv_at hl 0 rfl) ?_
  refine lv_iconst (v := 0) hx hb dX1_begin_1 (by decide) ?_
  refine k_put hC hK hP hD hS iX1 tyX1_ok nmX1 0 0 wf_X1_9 rfl (by decide) rfl rfl rfl rfl (Nat.le_of_ble_eq_true rfl) dX1_begin_2 (fun H locs hP hD hS => ?_)
  have hP : va_P G cl [(a0, .inr (1, [.int 0, .int v_ra_1, .int v_ra_2, .int v_ra_3, .int v_ra_4]))] H := hP
  have hD : va_D A [(a0, .inr (1, [.int 0, .int v_ra_1, .int v_ra_2, .int v_ra_3, .int v_ra_4]))] := hD
  have l_l1 : (0 : Int32).toInt = 0 := rfl
  rw [← hQm]
  exact k_vret hC hr hlk hK hP hD hS 0 [0] rfl (by decide +kernel) (show 0 ≤ (0 : Int32).toInt ∧ (0 : Int32).toInt ≤ 0 from by omega) (Nat.le_of_ble_eq_true rfl) (Nat.le_of_ble_eq_true rfl) dX1_begin_5
theorem dX1_take_0 : decode cX1_take 0 = .ok (.aload_n 0, 1) := by decide +kernel
theorem dX1_take_1 : decode cX1_take 1 = .ok (.getfield 9, 3) := by decide +kernel
theorem dX1_take_4 : decode cX1_take 4 = .ok (.ifCond .eq 11, 3) := by decide +kernel
theorem dX1_take_15 : decode cX1_take 15 = .ok (.aload_n 0, 1) := by decide +kernel
theorem dX1_take_16 : decode cX1_take 16 = .ok (.iload_n 1, 1) := by decide +kernel
theorem dX1_take_17 : decode cX1_take 17 = .ok (.putfield 15, 3) := by decide +kernel
set_option maxRecDepth 100000 in
theorem wf_X1_15 : Cond.fieldLink RX1 15 "StoneTrust$Range" "least" "I" ∈ gw := gm (List.mem_of_getElem? (i := 524) (by decide +kernel)) rfl
theorem dX1_take_20 : decode cX1_take 20 = .ok (.aload_n 0, 1) := by decide +kernel
theorem dX1_take_21 : decode cX1_take 21 = .ok (.getfield 9, 3) := by decide +kernel
theorem dX1_take_24 : decode cX1_take 24 = .ok (.ifCond .eq 11, 3) := by decide +kernel
theorem dX1_take_35 : decode cX1_take 35 = .ok (.aload_n 0, 1) := by decide +kernel
theorem dX1_take_36 : decode cX1_take 36 = .ok (.iload_n 1, 1) := by decide +kernel
theorem dX1_take_37 : decode cX1_take 37 = .ok (.putfield 19, 3) := by decide +kernel
set_option maxRecDepth 100000 in
theorem wf_X1_19 : Cond.fieldLink RX1 19 "StoneTrust$Range" "most" "I" ∈ gw := gm (List.mem_of_getElem? (i := 525) (by decide +kernel)) rfl
theorem dX1_take_40 : decode cX1_take 40 = .ok (.aload_n 0, 1) := by decide +kernel
theorem dX1_take_41 : decode cX1_take 41 = .ok (.iconst 1, 1) := by decide +kernel
theorem dX1_take_42 : decode cX1_take 42 = .ok (.putfield 9, 3) := by decide +kernel
theorem dX1_take_45 : decode cX1_take 45 = .ok (.return_, 1) := by decide +kernel
theorem dX1_take_7 : decode cX1_take 7 = .ok (.iload_n 1, 1) := by decide +kernel
theorem dX1_take_8 : decode cX1_take 8 = .ok (.aload_n 0, 1) := by decide +kernel
theorem dX1_take_9 : decode cX1_take 9 = .ok (.getfield 15, 3) := by decide +kernel
theorem dX1_take_12 : decode cX1_take 12 = .ok (.if_icmp .ge 8, 3) := by decide +kernel
theorem dX1_take_27 : decode cX1_take 27 = .ok (.iload_n 1, 1) := by decide +kernel
theorem dX1_take_28 : decode cX1_take 28 = .ok (.aload_n 0, 1) := by decide +kernel
theorem dX1_take_29 : decode cX1_take 29 = .ok (.getfield 19, 3) := by decide +kernel
theorem dX1_take_32 : decode cX1_take 32 = .ok (.if_icmp .le 8, 3) := by decide +kernel
set_option maxHeartbeats 4000000 in
set_option maxRecDepth 100000 in
theorem c2_X1_take (l : Launch) (G : va_G) (cI cJ cB cZ : ClassId) (a0 : Nat) (b1 : Int32) (v_ra_0 : Int32) (v_ra_1 : Int32) (v_ra_2 : Int32) (v_ra_3 : Int32) (v_ra_4 : Int32) (hv_0 : 0 ≤ v_ra_0.toInt) (hv_1 : v_ra_0.toInt ≤ 1) : Con l G (TY cI cJ cB cZ) yX1_take cX1_take 2 none ({ frames := 0, cells := 0, slots := 0, locals := 0 } : Room) [.ref a0, .int b1] [(a0, .inr (1, [.int v_ra_0, .int v_ra_1, .int v_ra_2, .int v_ra_3, .int v_ra_4]))] (QV G (TY cI cJ cB cZ) (fun u : Int32 × Int32 × Int32 => (1 ≤ u.1.toInt ∧ u.1.toInt ≤ 1)) (fun u : Int32 × Int32 × Int32 => [(a0, .inr (1, [.int u.1, .int u.2.1, .int u.2.2, .int v_ra_3, .int v_ra_4]))])) := by
  refine k_met (by decide) (Nat.le_of_ble_eq_true rfl) ?_
  intro p e s m below meth c A ls hC hr hlk hnm hN hZ hK hA hP hD hS hl
  have hl : lv_has ls 2 [(0, .ref a0), (1, .int b1)] := hl
  generalize hQm : MQ below _ _ s _ _ A = Qm
  generalize (List.toArray _ : Array Value) = args at hC hQm ⊢
  obtain ⟨hx, hb, hml, hown, hts⟩ := id hC
  obtain ⟨H, hH⟩ : ∃ q, q = s.heap := ⟨_, rfl⟩
  obtain ⟨locs, hlo⟩ : ∃ q : List Loc, q = [] := ⟨_, rfl⟩
  have hP : va_P G cl [(a0, .inr (1, [.int v_ra_0, .int v_ra_1, .int v_ra_2, .int v_ra_3, .int v_ra_4]))] H := by rw [hH]; exact hP
  have hS : va_S A s.heap H locs := by rw [hH, hlo]; exact hS
  rw [← hlo]
  rw [← hH]
  refine lv_aload_n hx hb dX1_take_0 rfl (lv_at hl 0 rfl) ?_
  refine k_get hC hK hP iX1 0 0 wf_X1_9 rfl (by decide) rfl rfl dX1_take_1 ?_
  refine lv_if_eq (tgt := 15) hx hb dX1_take_4 (by decide) (fun c1 => ?_) (fun c1 => ?_)
  · have dc1 : v_ra_0.toInt = 0 := (fa_eq _ _).mp c1
    refine lv_aload_n hx hb dX1_take_15 rfl (lv_at hl 0 rfl) ?_
    refine lv_iload_n hx hb dX1_take_16 rfl (lv_at hl 1 rfl) ?_
    refine k_put hC hK hP hD hS iX1 tyX1_ok nmX1 0 1 wf_X1_15 rfl (by decide) rfl rfl rfl rfl (Nat.le_of_ble_eq_true rfl) dX1_take_17 (fun H locs hP hD hS => ?_)
    have hP : va_P G cl [(a0, .inr (1, [.int v_ra_0, .int b1, .int v_ra_2, .int v_ra_3, .int v_ra_4]))] H := hP
    have hD : va_D A [(a0, .inr (1, [.int v_ra_0, .int b1, .int v_ra_2, .int v_ra_3, .int v_ra_4]))] := hD
    refine lv_aload_n hx hb dX1_take_20 rfl (lv_at hl 0 rfl) ?_
    refine k_get hC hK hP iX1 0 0 wf_X1_9 rfl (by decide) rfl rfl dX1_take_21 ?_
    refine lv_if_eq (tgt := 35) hx hb dX1_take_24 (by decide) (fun c2 => ?_) (fun c2 => by have dc2 : v_ra_0.toInt ≠ 0 := fa_ne c2; omega)
    have dc2 : v_ra_0.toInt = 0 := (fa_eq _ _).mp c2
    refine lv_aload_n hx hb dX1_take_35 rfl (lv_at hl 0 rfl) ?_
    refine lv_iload_n hx hb dX1_take_36 rfl (lv_at hl 1 rfl) ?_
    refine k_put hC hK hP hD hS iX1 tyX1_ok nmX1 0 2 wf_X1_19 rfl (by decide) rfl rfl rfl rfl (Nat.le_of_ble_eq_true rfl) dX1_take_37 (fun H locs hP hD hS => ?_)
    have hP : va_P G cl [(a0, .inr (1, [.int v_ra_0, .int b1, .int b1, .int v_ra_3, .int v_ra_4]))] H := hP
    have hD : va_D A [(a0, .inr (1, [.int v_ra_0, .int b1, .int b1, .int v_ra_3, .int v_ra_4]))] := hD
    refine lv_aload_n hx hb dX1_take_40 rfl (lv_at hl 0 rfl) ?_
    refine lv_iconst (v := 1) hx hb dX1_take_41 (by decide) ?_
    refine k_put hC hK hP hD hS iX1 tyX1_ok nmX1 0 0 wf_X1_9 rfl (by decide) rfl rfl rfl rfl (Nat.le_of_ble_eq_true rfl) dX1_take_42 (fun H locs hP hD hS => ?_)
    have hP : va_P G cl [(a0, .inr (1, [.int 1, .int b1, .int b1, .int v_ra_3, .int v_ra_4]))] H := hP
    have hD : va_D A [(a0, .inr (1, [.int 1, .int b1, .int b1, .int v_ra_3, .int v_ra_4]))] := hD
    have l_l3 : (1 : Int32).toInt = 1 := rfl
    rw [← hQm]
    exact k_vret hC hr hlk hK hP hD hS (1, b1, b1) [0] rfl (by decide +kernel) (show 1 ≤ (1 : Int32).toInt ∧ (1 : Int32).toInt ≤ 1 from by omega) (Nat.le_of_ble_eq_true rfl) (Nat.le_of_ble_eq_true rfl) dX1_take_45
  · have dc1 : v_ra_0.toInt ≠ 0 := fa_ne c1
    refine lv_iload_n hx hb dX1_take_7 rfl (lv_at hl 1 rfl) ?_
    refine lv_aload_n hx hb dX1_take_8 rfl (lv_at hl 0 rfl) ?_
    refine k_get hC hK hP iX1 0 1 wf_X1_15 rfl (by decide) rfl rfl dX1_take_9 ?_
    refine lv_icmp_ge (tgt := 20) hx hb dX1_take_12 (by decide) (fun c4 => ?_) (fun c4 => ?_)
    · have dc4 : v_ra_1.toInt ≤ b1.toInt := (fa_le _ _).mp c4; have lbc4_0 := i_lo v_ra_1; have ubc4_0 := i_hi v_ra_1; have lbc4_1 := i_lo b1; have ubc4_1 := i_hi b1
      refine lv_aload_n hx hb dX1_take_20 rfl (lv_at hl 0 rfl) ?_
      refine k_get hC hK hP iX1 0 0 wf_X1_9 rfl (by decide) rfl rfl dX1_take_21 ?_
      refine lv_if_eq (tgt := 35) hx hb dX1_take_24 (by decide) (fun c5 => by have dc5 : v_ra_0.toInt = 0 := (fa_eq _ _).mp c5; omega) (fun c5 => ?_)
      have dc5 : v_ra_0.toInt ≠ 0 := fa_ne c5
      refine lv_iload_n hx hb dX1_take_27 rfl (lv_at hl 1 rfl) ?_
      refine lv_aload_n hx hb dX1_take_28 rfl (lv_at hl 0 rfl) ?_
      refine k_get hC hK hP iX1 0 2 wf_X1_19 rfl (by decide) rfl rfl dX1_take_29 ?_
      refine lv_icmp_le (tgt := 40) hx hb dX1_take_32 (by decide) (fun c6 => ?_) (fun c6 => ?_)
      · have dc6 : b1.toInt ≤ v_ra_2.toInt := (fa_le _ _).mp c6; have lbc6_0 := i_lo b1; have ubc6_0 := i_hi b1; have lbc6_1 := i_lo v_ra_2; have ubc6_1 := i_hi v_ra_2
        refine lv_aload_n hx hb dX1_take_40 rfl (lv_at hl 0 rfl) ?_
        refine lv_iconst (v := 1) hx hb dX1_take_41 (by decide) ?_
        refine k_put hC hK hP hD hS iX1 tyX1_ok nmX1 0 0 wf_X1_9 rfl (by decide) rfl rfl rfl rfl (Nat.le_of_ble_eq_true rfl) dX1_take_42 (fun H locs hP hD hS => ?_)
        have hP : va_P G cl [(a0, .inr (1, [.int 1, .int v_ra_1, .int v_ra_2, .int v_ra_3, .int v_ra_4]))] H := hP
        have hD : va_D A [(a0, .inr (1, [.int 1, .int v_ra_1, .int v_ra_2, .int v_ra_3, .int v_ra_4]))] := hD
        have l_l7 : (1 : Int32).toInt = 1 := rfl
        rw [← hQm]
        exact k_vret hC hr hlk hK hP hD hS (1, v_ra_1, v_ra_2) [0] rfl (by decide +kernel) (show 1 ≤ (1 : Int32).toInt ∧ (1 : Int32).toInt ≤ 1 from by omega) (Nat.le_of_ble_eq_true rfl) (Nat.le_of_ble_eq_true rfl) dX1_take_45
      · have dc6 : v_ra_2.toInt < b1.toInt := fa_nle c6; have lbc6_0 := i_lo b1; have ubc6_0 := i_hi b1; have lbc6_1 := i_lo v_ra_2; have ubc6_1 := i_hi v_ra_2
        refine lv_aload_n hx hb dX1_take_35 rfl (lv_at hl 0 rfl) ?_
        refine lv_iload_n hx hb dX1_take_36 rfl (lv_at hl 1 rfl) ?_
        refine k_put hC hK hP hD hS iX1 tyX1_ok nmX1 0 2 wf_X1_19 rfl (by decide) rfl rfl rfl rfl (Nat.le_of_ble_eq_true rfl) dX1_take_37 (fun H locs hP hD hS => ?_)
        have hP : va_P G cl [(a0, .inr (1, [.int v_ra_0, .int v_ra_1, .int b1, .int v_ra_3, .int v_ra_4]))] H := hP
        have hD : va_D A [(a0, .inr (1, [.int v_ra_0, .int v_ra_1, .int b1, .int v_ra_3, .int v_ra_4]))] := hD
        refine lv_aload_n hx hb dX1_take_40 rfl (lv_at hl 0 rfl) ?_
        refine lv_iconst (v := 1) hx hb dX1_take_41 (by decide) ?_
        refine k_put hC hK hP hD hS iX1 tyX1_ok nmX1 0 0 wf_X1_9 rfl (by decide) rfl rfl rfl rfl (Nat.le_of_ble_eq_true rfl) dX1_take_42 (fun H locs hP hD hS => ?_)
        have hP : va_P G cl [(a0, .inr (1, [.int 1, .int v_ra_1, .int b1, .int v_ra_3, .int v_ra_4]))] H := hP
        have hD : va_D A [(a0, .inr (1, [.int 1, .int v_ra_1, .int b1, .int v_ra_3, .int v_ra_4]))] := hD
        have l_l8 : (1 : Int32).toInt = 1 := rfl
        rw [← hQm]
        exact k_vret hC hr hlk hK hP hD hS (1, v_ra_1, b1) [0] rfl (by decide +kernel) (show 1 ≤ (1 : Int32).toInt ∧ (1 : Int32).toInt ≤ 1 from by omega) (Nat.le_of_ble_eq_true rfl) (Nat.le_of_ble_eq_true rfl) dX1_take_45
    · have dc4 : b1.toInt < v_ra_1.toInt := fa_nle c4; have lbc4_0 := i_lo v_ra_1; have ubc4_0 := i_hi v_ra_1; have lbc4_1 := i_lo b1; have ubc4_1 := i_hi b1
      refine lv_aload_n hx hb dX1_take_15 rfl (lv_at hl 0 rfl) ?_
      refine lv_iload_n hx hb dX1_take_16 rfl (lv_at hl 1 rfl) ?_
      refine k_put hC hK hP hD hS iX1 tyX1_ok nmX1 0 1 wf_X1_15 rfl (by decide) rfl rfl rfl rfl (Nat.le_of_ble_eq_true rfl) dX1_take_17 (fun H locs hP hD hS => ?_)
      have hP : va_P G cl [(a0, .inr (1, [.int v_ra_0, .int b1, .int v_ra_2, .int v_ra_3, .int v_ra_4]))] H := hP
      have hD : va_D A [(a0, .inr (1, [.int v_ra_0, .int b1, .int v_ra_2, .int v_ra_3, .int v_ra_4]))] := hD
      refine lv_aload_n hx hb dX1_take_20 rfl (lv_at hl 0 rfl) ?_
      refine k_get hC hK hP iX1 0 0 wf_X1_9 rfl (by decide) rfl rfl dX1_take_21 ?_
      refine lv_if_eq (tgt := 35) hx hb dX1_take_24 (by decide) (fun c9 => by have dc9 : v_ra_0.toInt = 0 := (fa_eq _ _).mp c9; omega) (fun c9 => ?_)
      have dc9 : v_ra_0.toInt ≠ 0 := fa_ne c9
      refine lv_iload_n hx hb dX1_take_27 rfl (lv_at hl 1 rfl) ?_
      refine lv_aload_n hx hb dX1_take_28 rfl (lv_at hl 0 rfl) ?_
      refine k_get hC hK hP iX1 0 2 wf_X1_19 rfl (by decide) rfl rfl dX1_take_29 ?_
      refine lv_icmp_le (tgt := 40) hx hb dX1_take_32 (by decide) (fun c10 => ?_) (fun c10 => ?_)
      · have dc10 : b1.toInt ≤ v_ra_2.toInt := (fa_le _ _).mp c10; have lbc10_0 := i_lo b1; have lbc10_1 := i_lo v_ra_2; have ubc10_1 := i_hi v_ra_2
        refine lv_aload_n hx hb dX1_take_40 rfl (lv_at hl 0 rfl) ?_
        refine lv_iconst (v := 1) hx hb dX1_take_41 (by decide) ?_
        refine k_put hC hK hP hD hS iX1 tyX1_ok nmX1 0 0 wf_X1_9 rfl (by decide) rfl rfl rfl rfl (Nat.le_of_ble_eq_true rfl) dX1_take_42 (fun H locs hP hD hS => ?_)
        have hP : va_P G cl [(a0, .inr (1, [.int 1, .int b1, .int v_ra_2, .int v_ra_3, .int v_ra_4]))] H := hP
        have hD : va_D A [(a0, .inr (1, [.int 1, .int b1, .int v_ra_2, .int v_ra_3, .int v_ra_4]))] := hD
        have l_l11 : (1 : Int32).toInt = 1 := rfl
        rw [← hQm]
        exact k_vret hC hr hlk hK hP hD hS (1, b1, v_ra_2) [0] rfl (by decide +kernel) (show 1 ≤ (1 : Int32).toInt ∧ (1 : Int32).toInt ≤ 1 from by omega) (Nat.le_of_ble_eq_true rfl) (Nat.le_of_ble_eq_true rfl) dX1_take_45
      · have dc10 : v_ra_2.toInt < b1.toInt := fa_nle c10; have lbc10_0 := i_lo b1; have lbc10_1 := i_lo v_ra_2; have ubc10_1 := i_hi v_ra_2
        refine lv_aload_n hx hb dX1_take_35 rfl (lv_at hl 0 rfl) ?_
        refine lv_iload_n hx hb dX1_take_36 rfl (lv_at hl 1 rfl) ?_
        refine k_put hC hK hP hD hS iX1 tyX1_ok nmX1 0 2 wf_X1_19 rfl (by decide) rfl rfl rfl rfl (Nat.le_of_ble_eq_true rfl) dX1_take_37 (fun H locs hP hD hS => ?_)
        have hP : va_P G cl [(a0, .inr (1, [.int v_ra_0, .int b1, .int b1, .int v_ra_3, .int v_ra_4]))] H := hP
        have hD : va_D A [(a0, .inr (1, [.int v_ra_0, .int b1, .int b1, .int v_ra_3, .int v_ra_4]))] := hD
        refine lv_aload_n hx hb dX1_take_40 rfl (lv_at hl 0 rfl) ?_
        refine lv_iconst (v := 1) hx hb dX1_take_41 (by decide) ?_
        refine k_put hC hK hP hD hS iX1 tyX1_ok nmX1 0 0 wf_X1_9 rfl (by decide) rfl rfl rfl rfl (Nat.le_of_ble_eq_true rfl) dX1_take_42 (fun H locs hP hD hS => ?_)
        have hP : va_P G cl [(a0, .inr (1, [.int 1, .int b1, .int b1, .int v_ra_3, .int v_ra_4]))] H := hP
        have hD : va_D A [(a0, .inr (1, [.int 1, .int b1, .int b1, .int v_ra_3, .int v_ra_4]))] := hD
        have l_l12 : (1 : Int32).toInt = 1 := rfl
        rw [← hQm]
        exact k_vret hC hr hlk hK hP hD hS (1, b1, b1) [0] rfl (by decide +kernel) (show 1 ≤ (1 : Int32).toInt ∧ (1 : Int32).toInt ≤ 1 from by omega) (Nat.le_of_ble_eq_true rfl) (Nat.le_of_ble_eq_true rfl) dX1_take_45
theorem dX1_edge_0 : decode cX1_edge 0 = .ok (.aload_n 0, 1) := by decide +kernel
theorem dX1_edge_1 : decode cX1_edge 1 = .ok (.getfield 9, 3) := by decide +kernel
theorem dX1_edge_4 : decode cX1_edge 4 = .ok (.ifCond .ne 5, 3) := by decide +kernel
theorem dX1_edge_9 : decode cX1_edge 9 = .ok (.iload_n 1, 1) := by decide +kernel
theorem dX1_edge_10 : decode cX1_edge 10 = .ok (.ifCond .eq 10, 3) := by decide +kernel
theorem dX1_edge_20 : decode cX1_edge 20 = .ok (.aload_n 0, 1) := by decide +kernel
theorem dX1_edge_21 : decode cX1_edge 21 = .ok (.getfield 15, 3) := by decide +kernel
theorem dX1_edge_24 : decode cX1_edge 24 = .ok (.ireturn, 1) := by decide +kernel
theorem dX1_edge_13 : decode cX1_edge 13 = .ok (.aload_n 0, 1) := by decide +kernel
theorem dX1_edge_14 : decode cX1_edge 14 = .ok (.getfield 19, 3) := by decide +kernel
theorem dX1_edge_17 : decode cX1_edge 17 = .ok (.goto 7, 3) := by decide +kernel
theorem dX1_edge_7 : decode cX1_edge 7 = .ok (.iconst (-1), 1) := by decide +kernel
theorem dX1_edge_8 : decode cX1_edge 8 = .ok (.ireturn, 1) := by decide +kernel
set_option maxHeartbeats 4000000 in
set_option maxRecDepth 100000 in
theorem c3_X1_edge (l : Launch) (G : va_G) (cI cJ cB cZ : ClassId) (a0 : Nat) (b1 : Int32) (v_ra_0 : Int32) (v_ra_1 : Int32) (v_ra_2 : Int32) (v_ra_3 : Int32) (v_ra_4 : Int32) (hv_0 : 0 ≤ b1.toInt) (hv_1 : b1.toInt ≤ 1) (hv_2 : 0 ≤ v_ra_0.toInt) (hv_3 : v_ra_0.toInt ≤ 1) : Con l G (TY cI cJ cB cZ) yX1_edge cX1_edge 2 (some .int) ({ frames := 0, cells := 0, slots := 0, locals := 0 } : Room) [.ref a0, .int b1] [(a0, .inr (1, [.int v_ra_0, .int v_ra_1, .int v_ra_2, .int v_ra_3, .int v_ra_4]))] (QI G (TY cI cJ cB cZ) (fun (r : Int32) (u : Unit) => (True)) (fun u : Unit => [(a0, .inr (1, [.int v_ra_0, .int v_ra_1, .int v_ra_2, .int v_ra_3, .int v_ra_4]))])) := by
  refine k_met (by decide) (Nat.le_of_ble_eq_true rfl) ?_
  intro p e s m below meth c A ls hC hr hlk hnm hN hZ hK hA hP hD hS hl
  have hl : lv_has ls 2 [(0, .ref a0), (1, .int b1)] := hl
  generalize hQm : MQ below _ _ s _ _ A = Qm
  generalize (List.toArray _ : Array Value) = args at hC hQm ⊢
  obtain ⟨hx, hb, hml, hown, hts⟩ := id hC
  obtain ⟨H, hH⟩ : ∃ q, q = s.heap := ⟨_, rfl⟩
  obtain ⟨locs, hlo⟩ : ∃ q : List Loc, q = [] := ⟨_, rfl⟩
  have hP : va_P G cl [(a0, .inr (1, [.int v_ra_0, .int v_ra_1, .int v_ra_2, .int v_ra_3, .int v_ra_4]))] H := by rw [hH]; exact hP
  have hS : va_S A s.heap H locs := by rw [hH, hlo]; exact hS
  rw [← hlo]
  rw [← hH]
  refine lv_aload_n hx hb dX1_edge_0 rfl (lv_at hl 0 rfl) ?_
  refine k_get hC hK hP iX1 0 0 wf_X1_9 rfl (by decide) rfl rfl dX1_edge_1 ?_
  refine lv_if_ne (tgt := 9) hx hb dX1_edge_4 (by decide) (fun c1 => ?_) (fun c1 => ?_)
  · have dc1 : v_ra_0.toInt ≠ 0 := fa_ne c1
    refine lv_iload_n hx hb dX1_edge_9 rfl (lv_at hl 1 rfl) ?_
    refine lv_if_eq (tgt := 20) hx hb dX1_edge_10 (by decide) (fun c2 => ?_) (fun c2 => ?_)
    · have dc2 : b1.toInt = 0 := (fa_eq _ _).mp c2
      refine lv_aload_n hx hb dX1_edge_20 rfl (lv_at hl 0 rfl) ?_
      refine k_get hC hK hP iX1 0 1 wf_X1_15 rfl (by decide) rfl rfl dX1_edge_21 ?_
      rw [← hQm]
      exact k_iret hC hr hlk hK hP hD hS () [0] rfl (by decide +kernel) trivial (Nat.le_of_ble_eq_true rfl) (Nat.le_of_ble_eq_true rfl) dX1_edge_24
    · have dc2 : b1.toInt ≠ 0 := fa_ne c2
      refine lv_aload_n hx hb dX1_edge_13 rfl (lv_at hl 0 rfl) ?_
      refine k_get hC hK hP iX1 0 2 wf_X1_19 rfl (by decide) rfl rfl dX1_edge_14 ?_
      refine lv_goto (tgt := 24) hx hb dX1_edge_17 (by decide) ?_
      rw [← hQm]
      exact k_iret hC hr hlk hK hP hD hS () [0] rfl (by decide +kernel) trivial (Nat.le_of_ble_eq_true rfl) (Nat.le_of_ble_eq_true rfl) dX1_edge_24
  · have dc1 : v_ra_0.toInt = 0 := (fa_eq _ _).mp c1
    refine lv_iconst (v := (-1)) hx hb dX1_edge_7 (by decide) ?_
    have l_l3 : ((-1) : Int32).toInt = (-1) := rfl
    rw [← hQm]
    exact k_iret hC hr hlk hK hP hD hS () [0] rfl (by decide +kernel) trivial (Nat.le_of_ble_eq_true rfl) (Nat.le_of_ble_eq_true rfl) dX1_edge_8
theorem dX1_open_0 : decode cX1_open 0 = .ok (.aload_n 0, 1) := by decide +kernel
theorem dX1_open_1 : decode cX1_open 1 = .ok (.iconst 0, 1) := by decide +kernel
theorem dX1_open_2 : decode cX1_open 2 = .ok (.putfield 22, 3) := by decide +kernel
set_option maxRecDepth 100000 in
theorem wf_X1_22 : Cond.fieldLink RX1 22 "StoneTrust$Range" "low" "I" ∈ gw := gm (List.mem_of_getElem? (i := 526) (by decide +kernel)) rfl
theorem dX1_open_5 : decode cX1_open 5 = .ok (.aload_n 0, 1) := by decide +kernel
theorem dX1_open_6 : decode cX1_open 6 = .ok (.ldc 25, 2) := by decide +kernel
set_option maxRecDepth 100000 in
theorem kc_X1_25 : Cond.constant RX1 25 1000000 ∈ gw := gm (List.mem_of_getElem? (i := 1196) (by decide +kernel)) rfl
theorem dX1_open_8 : decode cX1_open 8 = .ok (.putfield 26, 3) := by decide +kernel
set_option maxRecDepth 100000 in
theorem wf_X1_26 : Cond.fieldLink RX1 26 "StoneTrust$Range" "high" "I" ∈ gw := gm (List.mem_of_getElem? (i := 527) (by decide +kernel)) rfl
theorem dX1_open_11 : decode cX1_open 11 = .ok (.return_, 1) := by decide +kernel
set_option maxHeartbeats 4000000 in
set_option maxRecDepth 100000 in
theorem c4_X1_open (l : Launch) (G : va_G) (cI cJ cB cZ : ClassId) (a0 : Nat) (v_ra_0 : Int32) (v_ra_1 : Int32) (v_ra_2 : Int32) (v_ra_3 : Int32) (v_ra_4 : Int32) (hv_0 : 0 ≤ v_ra_0.toInt) (hv_1 : v_ra_0.toInt ≤ 1) : Con l G (TY cI cJ cB cZ) yX1_open cX1_open 1 none ({ frames := 0, cells := 0, slots := 0, locals := 0 } : Room) [.ref a0] [(a0, .inr (1, [.int v_ra_0, .int v_ra_1, .int v_ra_2, .int v_ra_3, .int v_ra_4]))] (QV G (TY cI cJ cB cZ) (fun u : Int32 × Int32 => (0 ≤ u.1.toInt ∧ u.1.toInt ≤ 0 ∧ 1000000 ≤ u.2.toInt ∧ u.2.toInt ≤ 1000000)) (fun u : Int32 × Int32 => [(a0, .inr (1, [.int v_ra_0, .int v_ra_1, .int v_ra_2, .int u.1, .int u.2]))])) := by
  refine k_met (by decide) (Nat.le_of_ble_eq_true rfl) ?_
  intro p e s m below meth c A ls hC hr hlk hnm hN hZ hK hA hP hD hS hl
  have hl : lv_has ls 1 [(0, .ref a0)] := hl
  generalize hQm : MQ below _ _ s _ _ A = Qm
  generalize (List.toArray _ : Array Value) = args at hC hQm ⊢
  obtain ⟨hx, hb, hml, hown, hts⟩ := id hC
  obtain ⟨H, hH⟩ : ∃ q, q = s.heap := ⟨_, rfl⟩
  obtain ⟨locs, hlo⟩ : ∃ q : List Loc, q = [] := ⟨_, rfl⟩
  have hP : va_P G cl [(a0, .inr (1, [.int v_ra_0, .int v_ra_1, .int v_ra_2, .int v_ra_3, .int v_ra_4]))] H := by rw [hH]; exact hP
  have hS : va_S A s.heap H locs := by rw [hH, hlo]; exact hS
  rw [← hlo]
  rw [← hH]
  refine lv_aload_n hx hb dX1_open_0 rfl (lv_at hl 0 rfl) ?_
  refine lv_iconst (v := 0) hx hb dX1_open_1 (by decide) ?_
  refine k_put hC hK hP hD hS iX1 tyX1_ok nmX1 0 3 wf_X1_22 rfl (by decide) rfl rfl rfl rfl (Nat.le_of_ble_eq_true rfl) dX1_open_2 (fun H locs hP hD hS => ?_)
  have hP : va_P G cl [(a0, .inr (1, [.int v_ra_0, .int v_ra_1, .int v_ra_2, .int 0, .int v_ra_4]))] H := hP
  have hD : va_D A [(a0, .inr (1, [.int v_ra_0, .int v_ra_1, .int v_ra_2, .int 0, .int v_ra_4]))] := hD
  refine lv_aload_n hx hb dX1_open_5 rfl (lv_at hl 0 rfl) ?_
  refine lv_ldc (v := 1000000) hx hb hown (hts _ kc_X1_25) dX1_open_6 ?_
  refine k_put hC hK hP hD hS iX1 tyX1_ok nmX1 0 4 wf_X1_26 rfl (by decide) rfl rfl rfl rfl (Nat.le_of_ble_eq_true rfl) dX1_open_8 (fun H locs hP hD hS => ?_)
  have hP : va_P G cl [(a0, .inr (1, [.int v_ra_0, .int v_ra_1, .int v_ra_2, .int 0, .int 1000000]))] H := hP
  have hD : va_D A [(a0, .inr (1, [.int v_ra_0, .int v_ra_1, .int v_ra_2, .int 0, .int 1000000]))] := hD
  have l_l1 : (0 : Int32).toInt = 0 := rfl
  have l_l2 : (1000000 : Int32).toInt = 1000000 := rfl
  rw [← hQm]
  exact k_vret hC hr hlk hK hP hD hS (0, 1000000) [0] rfl (by decide +kernel) (show 0 ≤ (0 : Int32).toInt ∧ (0 : Int32).toInt ≤ 0 ∧ 1000000 ≤ (1000000 : Int32).toInt ∧ (1000000 : Int32).toInt ≤ 1000000 from by omega) (Nat.le_of_ble_eq_true rfl) (Nat.le_of_ble_eq_true rfl) dX1_open_11
theorem dX1_takeOpen_0 : decode cX1_takeOpen 0 = .ok (.aload_n 0, 1) := by decide +kernel
theorem dX1_takeOpen_1 : decode cX1_takeOpen 1 = .ok (.getfield 22, 3) := by decide +kernel
theorem dX1_takeOpen_4 : decode cX1_takeOpen 4 = .ok (.aload_n 0, 1) := by decide +kernel
theorem dX1_takeOpen_5 : decode cX1_takeOpen 5 = .ok (.getfield 26, 3) := by decide +kernel
theorem dX1_takeOpen_8 : decode cX1_takeOpen 8 = .ok (.if_icmp .gt 19, 3) := by decide +kernel
theorem dX1_takeOpen_27 : decode cX1_takeOpen 27 = .ok (.return_, 1) := by decide +kernel
theorem dX1_takeOpen_11 : decode cX1_takeOpen 11 = .ok (.aload_n 0, 1) := by decide +kernel
theorem dX1_takeOpen_12 : decode cX1_takeOpen 12 = .ok (.aload_n 0, 1) := by decide +kernel
theorem dX1_takeOpen_13 : decode cX1_takeOpen 13 = .ok (.getfield 22, 3) := by decide +kernel
theorem dX1_takeOpen_16 : decode cX1_takeOpen 16 = .ok (.invokevirtual 41, 3) := by decide +kernel
set_option maxRecDepth 100000 in
theorem wm_X1_41 : Cond.methodLink RX1 41 yX1_take ∈ gw := gm (List.mem_of_getElem? (i := 1216) (by decide +kernel)) rfl
set_option maxRecDepth 100000 in
theorem mi_X1_take : MI yX1_take cX1_take 2 none 1 := ⟨gm (List.mem_of_getElem? (i := 970) rfl) rfl, gm (List.mem_of_getElem? (i := 123) (by decide +kernel)) rfl, by decide, by decide, by decide +kernel⟩
set_option maxRecDepth 100000 in
theorem in_X1_take : Cond.instanceMethod yX1_take ∈ gw := gm (List.mem_of_getElem? (i := 968) (by decide +kernel)) rfl
set_option maxRecDepth 100000 in
theorem se_X1_take : Cond.selects yX1_take.cls yX1_take yX1_take ∈ gw := gm (List.mem_of_getElem? (i := 969) (by decide +kernel)) rfl
theorem dX1_takeOpen_19 : decode cX1_takeOpen 19 = .ok (.aload_n 0, 1) := by decide +kernel
theorem dX1_takeOpen_20 : decode cX1_takeOpen 20 = .ok (.aload_n 0, 1) := by decide +kernel
theorem dX1_takeOpen_21 : decode cX1_takeOpen 21 = .ok (.getfield 26, 3) := by decide +kernel
theorem dX1_takeOpen_24 : decode cX1_takeOpen 24 = .ok (.invokevirtual 41, 3) := by decide +kernel
set_option maxHeartbeats 4000000 in
set_option maxRecDepth 100000 in
theorem c5_X1_takeOpen (l : Launch) (G : va_G) (cI cJ cB cZ : ClassId) (a0 : Nat) (v_ra_0 : Int32) (v_ra_1 : Int32) (v_ra_2 : Int32) (v_ra_3 : Int32) (v_ra_4 : Int32) (hv_0 : 0 ≤ v_ra_0.toInt) (hv_1 : v_ra_0.toInt ≤ 1) : Con l G (TY cI cJ cB cZ) yX1_takeOpen cX1_takeOpen 1 none ({ frames := 1, cells := 0, slots := 0, locals := 21 } : Room) [.ref a0] [(a0, .inr (1, [.int v_ra_0, .int v_ra_1, .int v_ra_2, .int v_ra_3, .int v_ra_4]))] (QV G (TY cI cJ cB cZ) (fun u : Int32 × Int32 × Int32 => (0 ≤ u.1.toInt ∧ u.1.toInt ≤ 1)) (fun u : Int32 × Int32 × Int32 => [(a0, .inr (1, [.int u.1, .int u.2.1, .int u.2.2, .int v_ra_3, .int v_ra_4]))])) := by
  refine k_met (by decide) (Nat.le_of_ble_eq_true rfl) ?_
  intro p e s m below meth c A ls hC hr hlk hnm hN hZ hK hA hP hD hS hl
  have hl : lv_has ls 1 [(0, .ref a0)] := hl
  generalize hQm : MQ below _ _ s _ _ A = Qm
  generalize (List.toArray _ : Array Value) = args at hC hQm ⊢
  obtain ⟨hx, hb, hml, hown, hts⟩ := id hC
  obtain ⟨H, hH⟩ : ∃ q, q = s.heap := ⟨_, rfl⟩
  obtain ⟨locs, hlo⟩ : ∃ q : List Loc, q = [] := ⟨_, rfl⟩
  have hP : va_P G cl [(a0, .inr (1, [.int v_ra_0, .int v_ra_1, .int v_ra_2, .int v_ra_3, .int v_ra_4]))] H := by rw [hH]; exact hP
  have hS : va_S A s.heap H locs := by rw [hH, hlo]; exact hS
  rw [← hlo]
  rw [← hH]
  refine lv_aload_n hx hb dX1_takeOpen_0 rfl (lv_at hl 0 rfl) ?_
  refine k_get hC hK hP iX1 0 3 wf_X1_22 rfl (by decide) rfl rfl dX1_takeOpen_1 ?_
  refine lv_aload_n hx hb dX1_takeOpen_4 rfl (lv_at hl 0 rfl) ?_
  refine k_get hC hK hP iX1 0 4 wf_X1_26 rfl (by decide) rfl rfl dX1_takeOpen_5 ?_
  refine lv_icmp_gt (tgt := 27) hx hb dX1_takeOpen_8 (by decide) (fun c1 => ?_) (fun c1 => ?_)
  · have dc1 : v_ra_4.toInt < v_ra_3.toInt := (fa_lt _ _).mp c1; have lbc1_0 := i_lo v_ra_4; have ubc1_0 := i_hi v_ra_4; have lbc1_1 := i_lo v_ra_3; have ubc1_1 := i_hi v_ra_3
    rw [← hQm]
    exact k_vret hC hr hlk hK hP hD hS (v_ra_0, v_ra_1, v_ra_2) [0] rfl (by decide +kernel) (show 0 ≤ v_ra_0.toInt ∧ v_ra_0.toInt ≤ 1 from by omega) (Nat.le_of_ble_eq_true rfl) (Nat.le_of_ble_eq_true rfl) dX1_takeOpen_27
  · have dc1 : v_ra_3.toInt ≤ v_ra_4.toInt := fa_nlt c1; have lbc1_0 := i_lo v_ra_4; have ubc1_0 := i_hi v_ra_4; have lbc1_1 := i_lo v_ra_3; have ubc1_1 := i_hi v_ra_3
    refine lv_aload_n hx hb dX1_takeOpen_11 rfl (lv_at hl 0 rfl) ?_
    refine lv_aload_n hx hb dX1_takeOpen_12 rfl (lv_at hl 0 rfl) ?_
    refine k_get hC hK hP iX1 0 3 wf_X1_22 rfl (by decide) rfl rfl dX1_takeOpen_13 ?_
    refine k_cv (wr := []) (k_rV hC hN hZ hS hA hK hP hD (c2_X1_take l G cI cJ cB cZ a0 v_ra_3 v_ra_0 v_ra_1 v_ra_2 v_ra_3 v_ra_4 hv_0 hv_1) [0] rfl (by decide +kernel) mi_X1_take in_X1_take se_X1_take wm_X1_41 1 0 rfl rfl rfl hl.1 rfl rfl (Nat.le_of_ble_eq_true rfl) ⟨(Nat.le_of_ble_eq_true rfl), (Nat.le_of_ble_eq_true rfl)⟩ dX1_takeOpen_16 ⟨(Nat.le_of_ble_eq_true rfl), (Nat.le_of_ble_eq_true rfl)⟩) hP hD hS hA [0] [] rfl rfl (by decide +kernel) (by decide +kernel) (fun u2 H locs hp hP hD hS => ?_)
    obtain ⟨h3, h4, h5⟩ := u2
    have hp : (1 ≤ h3.toInt ∧ h3.toInt ≤ 1) := hp
    have hP : va_P G cl [(a0, .inr (1, [.int h3, .int h4, .int h5, .int v_ra_3, .int v_ra_4]))] H := hP
    have hD : va_D A [(a0, .inr (1, [.int h3, .int h4, .int h5, .int v_ra_3, .int v_ra_4]))] := hD
    have hq2 := hp
    refine lv_aload_n hx hb dX1_takeOpen_19 rfl (lv_at hl 0 rfl) ?_
    refine lv_aload_n hx hb dX1_takeOpen_20 rfl (lv_at hl 0 rfl) ?_
    refine k_get hC hK hP iX1 0 4 wf_X1_26 rfl (by decide) rfl rfl dX1_takeOpen_21 ?_
    refine k_cv (wr := []) (k_rV hC hN hZ hS hA hK hP hD (c2_X1_take l G cI cJ cB cZ a0 v_ra_4 h3 h4 h5 v_ra_3 v_ra_4 (by omega) (by omega)) [0] rfl (by decide +kernel) mi_X1_take in_X1_take se_X1_take wm_X1_41 1 0 rfl rfl rfl hl.1 rfl rfl (Nat.le_of_ble_eq_true rfl) ⟨(Nat.le_of_ble_eq_true rfl), (Nat.le_of_ble_eq_true rfl)⟩ dX1_takeOpen_24 ⟨(Nat.le_of_ble_eq_true rfl), (Nat.le_of_ble_eq_true rfl)⟩) hP hD hS hA [0] [] rfl rfl (by decide +kernel) (by decide +kernel) (fun u6 H locs hp hP hD hS => ?_)
    obtain ⟨h7, h8, h9⟩ := u6
    have hp : (1 ≤ h7.toInt ∧ h7.toInt ≤ 1) := hp
    have hP : va_P G cl [(a0, .inr (1, [.int h7, .int h8, .int h9, .int v_ra_3, .int v_ra_4]))] H := hP
    have hD : va_D A [(a0, .inr (1, [.int h7, .int h8, .int h9, .int v_ra_3, .int v_ra_4]))] := hD
    have hq6 := hp
    rw [← hQm]
    exact k_vret hC hr hlk hK hP hD hS (h7, h8, h9) [0] rfl (by decide +kernel) (show 0 ≤ h7.toInt ∧ h7.toInt ≤ 1 from by omega) (Nat.le_of_ble_eq_true rfl) (Nat.le_of_ble_eq_true rfl) dX1_takeOpen_27
theorem dX8_put_0 : decode cX8_put 0 = .ok (.aload_n 0, 1) := by decide +kernel
theorem dX8_put_1 : decode cX8_put 1 = .ok (.getfield 9, 3) := by decide +kernel
set_option maxRecDepth 100000 in
theorem wf_X8_9 : Cond.fieldLink RX8 9 "StoneTrust$Weighings" "size" "I" ∈ gw := gm (List.mem_of_getElem? (i := 163) (by decide +kernel)) rfl
theorem dX8_put_4 : decode cX8_put 4 = .ok (.aload_n 0, 1) := by decide +kernel
theorem dX8_put_5 : decode cX8_put 5 = .ok (.getfield 21, 3) := by decide +kernel
set_option maxRecDepth 100000 in
theorem wf_X8_21 : Cond.fieldLink RX8 21 "StoneTrust$Weighings" "left" "[I" ∈ gw := gm (List.mem_of_getElem? (i := 150) (by decide +kernel)) rfl
theorem dX8_put_8 : decode cX8_put 8 = .ok (.arraylength, 1) := by decide +kernel
theorem dX8_put_9 : decode cX8_put 9 = .ok (.if_icmp .lt 4, 3) := by decide +kernel
theorem dX8_put_13 : decode cX8_put 13 = .ok (.aload_n 0, 1) := by decide +kernel
theorem dX8_put_14 : decode cX8_put 14 = .ok (.getfield 21, 3) := by decide +kernel
theorem dX8_put_17 : decode cX8_put 17 = .ok (.aload_n 0, 1) := by decide +kernel
theorem dX8_put_18 : decode cX8_put 18 = .ok (.getfield 9, 3) := by decide +kernel
theorem dX8_put_21 : decode cX8_put 21 = .ok (.iload_n 1, 1) := by decide +kernel
theorem dX8_put_22 : decode cX8_put 22 = .ok (.iastore, 1) := by decide +kernel
theorem dX8_put_23 : decode cX8_put 23 = .ok (.aload_n 0, 1) := by decide +kernel
theorem dX8_put_24 : decode cX8_put 24 = .ok (.getfield 25, 3) := by decide +kernel
set_option maxRecDepth 100000 in
theorem wf_X8_25 : Cond.fieldLink RX8 25 "StoneTrust$Weighings" "right" "[I" ∈ gw := gm (List.mem_of_getElem? (i := 152) (by decide +kernel)) rfl
theorem dX8_put_27 : decode cX8_put 27 = .ok (.aload_n 0, 1) := by decide +kernel
theorem dX8_put_28 : decode cX8_put 28 = .ok (.getfield 9, 3) := by decide +kernel
theorem dX8_put_31 : decode cX8_put 31 = .ok (.iload_n 2, 1) := by decide +kernel
theorem dX8_put_32 : decode cX8_put 32 = .ok (.iastore, 1) := by decide +kernel
theorem dX8_put_33 : decode cX8_put 33 = .ok (.aload_n 0, 1) := by decide +kernel
theorem dX8_put_34 : decode cX8_put 34 = .ok (.getfield 28, 3) := by decide +kernel
set_option maxRecDepth 100000 in
theorem wf_X8_28 : Cond.fieldLink RX8 28 "StoneTrust$Weighings" "year" "[I" ∈ gw := gm (List.mem_of_getElem? (i := 154) (by decide +kernel)) rfl
theorem dX8_put_37 : decode cX8_put 37 = .ok (.aload_n 0, 1) := by decide +kernel
theorem dX8_put_38 : decode cX8_put 38 = .ok (.getfield 9, 3) := by decide +kernel
theorem dX8_put_41 : decode cX8_put 41 = .ok (.iload_n 3, 1) := by decide +kernel
theorem dX8_put_42 : decode cX8_put 42 = .ok (.iastore, 1) := by decide +kernel
theorem dX8_put_43 : decode cX8_put 43 = .ok (.aload_n 0, 1) := by decide +kernel
theorem dX8_put_44 : decode cX8_put 44 = .ok (.getfield 31, 3) := by decide +kernel
set_option maxRecDepth 100000 in
theorem wf_X8_31 : Cond.fieldLink RX8 31 "StoneTrust$Weighings" "trader" "[I" ∈ gw := gm (List.mem_of_getElem? (i := 156) (by decide +kernel)) rfl
theorem dX8_put_47 : decode cX8_put 47 = .ok (.aload_n 0, 1) := by decide +kernel
theorem dX8_put_48 : decode cX8_put 48 = .ok (.getfield 9, 3) := by decide +kernel
theorem dX8_put_51 : decode cX8_put 51 = .ok (.iload 4, 2) := by decide +kernel
theorem dX8_put_53 : decode cX8_put 53 = .ok (.iastore, 1) := by decide +kernel
theorem dX8_put_54 : decode cX8_put 54 = .ok (.aload_n 0, 1) := by decide +kernel
theorem dX8_put_55 : decode cX8_put 55 = .ok (.getfield 34, 3) := by decide +kernel
set_option maxRecDepth 100000 in
theorem wf_X8_34 : Cond.fieldLink RX8 34 "StoneTrust$Weighings" "how" "[I" ∈ gw := gm (List.mem_of_getElem? (i := 159) (by decide +kernel)) rfl
theorem dX8_put_58 : decode cX8_put 58 = .ok (.aload_n 0, 1) := by decide +kernel
theorem dX8_put_59 : decode cX8_put 59 = .ok (.getfield 9, 3) := by decide +kernel
theorem dX8_put_62 : decode cX8_put 62 = .ok (.iload 5, 2) := by decide +kernel
theorem dX8_put_64 : decode cX8_put 64 = .ok (.iastore, 1) := by decide +kernel
theorem dX8_put_65 : decode cX8_put 65 = .ok (.aload_n 0, 1) := by decide +kernel
theorem dX8_put_66 : decode cX8_put 66 = .ok (.getfield 37, 3) := by decide +kernel
set_option maxRecDepth 100000 in
theorem wf_X8_37 : Cond.fieldLink RX8 37 "StoneTrust$Weighings" "told" "[I" ∈ gw := gm (List.mem_of_getElem? (i := 161) (by decide +kernel)) rfl
theorem dX8_put_69 : decode cX8_put 69 = .ok (.aload_n 0, 1) := by decide +kernel
theorem dX8_put_70 : decode cX8_put 70 = .ok (.getfield 9, 3) := by decide +kernel
theorem dX8_put_73 : decode cX8_put 73 = .ok (.iconst 0, 1) := by decide +kernel
theorem dX8_put_74 : decode cX8_put 74 = .ok (.iastore, 1) := by decide +kernel
theorem dX8_put_75 : decode cX8_put 75 = .ok (.aload_n 0, 1) := by decide +kernel
theorem dX8_put_76 : decode cX8_put 76 = .ok (.getfield 40, 3) := by decide +kernel
set_option maxRecDepth 100000 in
theorem wf_X8_40 : Cond.fieldLink RX8 40 "StoneTrust$Weighings" "untold" "[I" ∈ gw := gm (List.mem_of_getElem? (i := 162) (by decide +kernel)) rfl
theorem dX8_put_79 : decode cX8_put 79 = .ok (.aload_n 0, 1) := by decide +kernel
theorem dX8_put_80 : decode cX8_put 80 = .ok (.getfield 9, 3) := by decide +kernel
theorem dX8_put_83 : decode cX8_put 83 = .ok (.iconst (-1), 1) := by decide +kernel
theorem dX8_put_84 : decode cX8_put 84 = .ok (.iastore, 1) := by decide +kernel
theorem dX8_put_85 : decode cX8_put 85 = .ok (.aload_n 0, 1) := by decide +kernel
theorem dX8_put_86 : decode cX8_put 86 = .ok (.dup, 1) := by decide +kernel
theorem dX8_put_87 : decode cX8_put 87 = .ok (.getfield 9, 3) := by decide +kernel
theorem dX8_put_90 : decode cX8_put 90 = .ok (.iconst 1, 1) := by decide +kernel
theorem dX8_put_91 : decode cX8_put 91 = .ok (.iadd, 1) := by decide +kernel
theorem dX8_put_92 : decode cX8_put 92 = .ok (.putfield 9, 3) := by decide +kernel
theorem dX8_put_95 : decode cX8_put 95 = .ok (.return_, 1) := by decide +kernel
theorem dX8_put_12 : decode cX8_put 12 = .ok (.return_, 1) := by decide +kernel
set_option maxHeartbeats 4000000 in
set_option maxRecDepth 100000 in
theorem c6_X8_put (l : Launch) (G : va_G) (cI cJ cB cZ : ClassId) (a0 a1 a2 a3 a4 a5 a6 a7 : Nat) (b1 : Int32) (b2 : Int32) (b3 : Int32) (b4 : Int32) (b5 : Int32) (v_ot_7 : Int32) (g_ot_left : Nat → Int32) (g_ot_right : Nat → Int32) (g_ot_year : Nat → Int32) (g_ot_trader : Nat → Int32) (g_ot_how : Nat → Int32) (g_ot_told : Nat → Int32) (g_ot_untold : Nat → Int32) (hv_0 : 0 ≤ v_ot_7.toInt) (hv_1 : v_ot_7.toInt ≤ 30) : Con l G (TY cI cJ cB cZ) yX8_put cX8_put 6 none ({ frames := 0, cells := 0, slots := 0, locals := 0 } : Room) [.ref a0, .int b1, .int b2, .int b3, .int b4, .int b5] [(a0, .inr (8, [.ref a1, .ref a2, .ref a3, .ref a4, .ref a5, .ref a6, .ref a7, .int v_ot_7])), (a1, .inl (cI, 30, .inl g_ot_left)), (a2, .inl (cI, 30, .inl g_ot_right)), (a3, .inl (cI, 30, .inl g_ot_year)), (a4, .inl (cI, 30, .inl g_ot_trader)), (a5, .inl (cI, 30, .inl g_ot_how)), (a6, .inl (cI, 30, .inl g_ot_told)), (a7, .inl (cI, 30, .inl g_ot_untold))] (QV G (TY cI cJ cB cZ) (fun u : Int32 × (Nat → Int32) × (Nat → Int32) × (Nat → Int32) × (Nat → Int32) × (Nat → Int32) × (Nat → Int32) × (Nat → Int32) => (1 ≤ u.1.toInt ∧ u.1.toInt ≤ 30)) (fun u : Int32 × (Nat → Int32) × (Nat → Int32) × (Nat → Int32) × (Nat → Int32) × (Nat → Int32) × (Nat → Int32) × (Nat → Int32) => [(a0, .inr (8, [.ref a1, .ref a2, .ref a3, .ref a4, .ref a5, .ref a6, .ref a7, .int u.1])), (a1, .inl (cI, 30, .inl u.2.1)), (a2, .inl (cI, 30, .inl u.2.2.1)), (a3, .inl (cI, 30, .inl u.2.2.2.1)), (a4, .inl (cI, 30, .inl u.2.2.2.2.1)), (a5, .inl (cI, 30, .inl u.2.2.2.2.2.1)), (a6, .inl (cI, 30, .inl u.2.2.2.2.2.2.1)), (a7, .inl (cI, 30, .inl u.2.2.2.2.2.2.2))])) := by
  refine k_met (by decide) (Nat.le_of_ble_eq_true rfl) ?_
  intro p e s m below meth c A ls hC hr hlk hnm hN hZ hK hA hP hD hS hl
  have hl : lv_has ls 6 [(0, .ref a0), (1, .int b1), (2, .int b2), (3, .int b3), (4, .int b4), (5, .int b5)] := hl
  generalize hQm : MQ below _ _ s _ _ A = Qm
  generalize (List.toArray _ : Array Value) = args at hC hQm ⊢
  obtain ⟨hx, hb, hml, hown, hts⟩ := id hC
  obtain ⟨H, hH⟩ : ∃ q, q = s.heap := ⟨_, rfl⟩
  obtain ⟨locs, hlo⟩ : ∃ q : List Loc, q = [] := ⟨_, rfl⟩
  have hP : va_P G cl [(a0, .inr (8, [.ref a1, .ref a2, .ref a3, .ref a4, .ref a5, .ref a6, .ref a7, .int v_ot_7])), (a1, .inl (cI, 30, .inl g_ot_left)), (a2, .inl (cI, 30, .inl g_ot_right)), (a3, .inl (cI, 30, .inl g_ot_year)), (a4, .inl (cI, 30, .inl g_ot_trader)), (a5, .inl (cI, 30, .inl g_ot_how)), (a6, .inl (cI, 30, .inl g_ot_told)), (a7, .inl (cI, 30, .inl g_ot_untold))] H := by rw [hH]; exact hP
  have hS : va_S A s.heap H locs := by rw [hH, hlo]; exact hS
  rw [← hlo]
  rw [← hH]
  refine lv_aload_n hx hb dX8_put_0 rfl (lv_at hl 0 rfl) ?_
  refine k_get hC hK hP iX8 0 7 wf_X8_9 rfl (by decide) rfl rfl dX8_put_1 ?_
  refine lv_aload_n hx hb dX8_put_4 rfl (lv_at hl 0 rfl) ?_
  refine k_get hC hK hP iX8 0 0 wf_X8_21 rfl (by decide) rfl rfl dX8_put_5 ?_
  refine k_alen hC hK hP 1 0 30 rfl rfl rfl dX8_put_8 ?_
  refine lv_icmp_lt (tgt := 13) hx hb dX8_put_9 (by decide) (fun c1 => ?_) (fun c1 => ?_)
  · have dc1 : v_ot_7.toInt < 30 := (fa_lt _ _).mp c1
    refine lv_aload_n hx hb dX8_put_13 rfl (lv_at hl 0 rfl) ?_
    refine k_get hC hK hP iX8 0 0 wf_X8_21 rfl (by decide) rfl rfl dX8_put_14 ?_
    refine lv_aload_n hx hb dX8_put_17 rfl (lv_at hl 0 rfl) ?_
    refine k_get hC hK hP iX8 0 7 wf_X8_9 rfl (by decide) rfl rfl dX8_put_18 ?_
    refine lv_iload_n hx hb dX8_put_21 rfl (lv_at hl 1 rfl) ?_
    refine t_iast hC hK hP hD hS 1 rfl (by omega) (by omega) (TA.all _) ⟨i_lo _, i_hi _⟩ dX8_put_22 (fun f2 H locs hT_f2 hP hD hS => ?_)
    have hP : va_P G cl [(a0, .inr (8, [.ref a1, .ref a2, .ref a3, .ref a4, .ref a5, .ref a6, .ref a7, .int v_ot_7])), (a1, .inl (cI, 30, .inl f2)), (a2, .inl (cI, 30, .inl g_ot_right)), (a3, .inl (cI, 30, .inl g_ot_year)), (a4, .inl (cI, 30, .inl g_ot_trader)), (a5, .inl (cI, 30, .inl g_ot_how)), (a6, .inl (cI, 30, .inl g_ot_told)), (a7, .inl (cI, 30, .inl g_ot_untold))] H := hP
    have hD : va_D A [(a0, .inr (8, [.ref a1, .ref a2, .ref a3, .ref a4, .ref a5, .ref a6, .ref a7, .int v_ot_7])), (a1, .inl (cI, 30, .inl f2)), (a2, .inl (cI, 30, .inl g_ot_right)), (a3, .inl (cI, 30, .inl g_ot_year)), (a4, .inl (cI, 30, .inl g_ot_trader)), (a5, .inl (cI, 30, .inl g_ot_how)), (a6, .inl (cI, 30, .inl g_ot_told)), (a7, .inl (cI, 30, .inl g_ot_untold))] := hD
    refine lv_aload_n hx hb dX8_put_23 rfl (lv_at hl 0 rfl) ?_
    refine k_get hC hK hP iX8 0 1 wf_X8_25 rfl (by decide) rfl rfl dX8_put_24 ?_
    refine lv_aload_n hx hb dX8_put_27 rfl (lv_at hl 0 rfl) ?_
    refine k_get hC hK hP iX8 0 7 wf_X8_9 rfl (by decide) rfl rfl dX8_put_28 ?_
    refine lv_iload_n hx hb dX8_put_31 rfl (lv_at hl 2 rfl) ?_
    refine t_iast hC hK hP hD hS 2 rfl (by omega) (by omega) (TA.all _) ⟨i_lo _, i_hi _⟩ dX8_put_32 (fun f3 H locs hT_f3 hP hD hS => ?_)
    have hP : va_P G cl [(a0, .inr (8, [.ref a1, .ref a2, .ref a3, .ref a4, .ref a5, .ref a6, .ref a7, .int v_ot_7])), (a1, .inl (cI, 30, .inl f2)), (a2, .inl (cI, 30, .inl f3)), (a3, .inl (cI, 30, .inl g_ot_year)), (a4, .inl (cI, 30, .inl g_ot_trader)), (a5, .inl (cI, 30, .inl g_ot_how)), (a6, .inl (cI, 30, .inl g_ot_told)), (a7, .inl (cI, 30, .inl g_ot_untold))] H := hP
    have hD : va_D A [(a0, .inr (8, [.ref a1, .ref a2, .ref a3, .ref a4, .ref a5, .ref a6, .ref a7, .int v_ot_7])), (a1, .inl (cI, 30, .inl f2)), (a2, .inl (cI, 30, .inl f3)), (a3, .inl (cI, 30, .inl g_ot_year)), (a4, .inl (cI, 30, .inl g_ot_trader)), (a5, .inl (cI, 30, .inl g_ot_how)), (a6, .inl (cI, 30, .inl g_ot_told)), (a7, .inl (cI, 30, .inl g_ot_untold))] := hD
    refine lv_aload_n hx hb dX8_put_33 rfl (lv_at hl 0 rfl) ?_
    refine k_get hC hK hP iX8 0 2 wf_X8_28 rfl (by decide) rfl rfl dX8_put_34 ?_
    refine lv_aload_n hx hb dX8_put_37 rfl (lv_at hl 0 rfl) ?_
    refine k_get hC hK hP iX8 0 7 wf_X8_9 rfl (by decide) rfl rfl dX8_put_38 ?_
    refine lv_iload_n hx hb dX8_put_41 rfl (lv_at hl 3 rfl) ?_
    refine t_iast hC hK hP hD hS 3 rfl (by omega) (by omega) (TA.all _) ⟨i_lo _, i_hi _⟩ dX8_put_42 (fun f4 H locs hT_f4 hP hD hS => ?_)
    have hP : va_P G cl [(a0, .inr (8, [.ref a1, .ref a2, .ref a3, .ref a4, .ref a5, .ref a6, .ref a7, .int v_ot_7])), (a1, .inl (cI, 30, .inl f2)), (a2, .inl (cI, 30, .inl f3)), (a3, .inl (cI, 30, .inl f4)), (a4, .inl (cI, 30, .inl g_ot_trader)), (a5, .inl (cI, 30, .inl g_ot_how)), (a6, .inl (cI, 30, .inl g_ot_told)), (a7, .inl (cI, 30, .inl g_ot_untold))] H := hP
    have hD : va_D A [(a0, .inr (8, [.ref a1, .ref a2, .ref a3, .ref a4, .ref a5, .ref a6, .ref a7, .int v_ot_7])), (a1, .inl (cI, 30, .inl f2)), (a2, .inl (cI, 30, .inl f3)), (a3, .inl (cI, 30, .inl f4)), (a4, .inl (cI, 30, .inl g_ot_trader)), (a5, .inl (cI, 30, .inl g_ot_how)), (a6, .inl (cI, 30, .inl g_ot_told)), (a7, .inl (cI, 30, .inl g_ot_untold))] := hD
    refine lv_aload_n hx hb dX8_put_43 rfl (lv_at hl 0 rfl) ?_
    refine k_get hC hK hP iX8 0 3 wf_X8_31 rfl (by decide) rfl rfl dX8_put_44 ?_
    refine lv_aload_n hx hb dX8_put_47 rfl (lv_at hl 0 rfl) ?_
    refine k_get hC hK hP iX8 0 7 wf_X8_9 rfl (by decide) rfl rfl dX8_put_48 ?_
    refine lv_iload hx hb dX8_put_51 (lv_at hl 4 rfl) ?_
    refine t_iast hC hK hP hD hS 4 rfl (by omega) (by omega) (TA.all _) ⟨i_lo _, i_hi _⟩ dX8_put_53 (fun f5 H locs hT_f5 hP hD hS => ?_)
    have hP : va_P G cl [(a0, .inr (8, [.ref a1, .ref a2, .ref a3, .ref a4, .ref a5, .ref a6, .ref a7, .int v_ot_7])), (a1, .inl (cI, 30, .inl f2)), (a2, .inl (cI, 30, .inl f3)), (a3, .inl (cI, 30, .inl f4)), (a4, .inl (cI, 30, .inl f5)), (a5, .inl (cI, 30, .inl g_ot_how)), (a6, .inl (cI, 30, .inl g_ot_told)), (a7, .inl (cI, 30, .inl g_ot_untold))] H := hP
    have hD : va_D A [(a0, .inr (8, [.ref a1, .ref a2, .ref a3, .ref a4, .ref a5, .ref a6, .ref a7, .int v_ot_7])), (a1, .inl (cI, 30, .inl f2)), (a2, .inl (cI, 30, .inl f3)), (a3, .inl (cI, 30, .inl f4)), (a4, .inl (cI, 30, .inl f5)), (a5, .inl (cI, 30, .inl g_ot_how)), (a6, .inl (cI, 30, .inl g_ot_told)), (a7, .inl (cI, 30, .inl g_ot_untold))] := hD
    refine lv_aload_n hx hb dX8_put_54 rfl (lv_at hl 0 rfl) ?_
    refine k_get hC hK hP iX8 0 4 wf_X8_34 rfl (by decide) rfl rfl dX8_put_55 ?_
    refine lv_aload_n hx hb dX8_put_58 rfl (lv_at hl 0 rfl) ?_
    refine k_get hC hK hP iX8 0 7 wf_X8_9 rfl (by decide) rfl rfl dX8_put_59 ?_
    refine lv_iload hx hb dX8_put_62 (lv_at hl 5 rfl) ?_
    refine t_iast hC hK hP hD hS 5 rfl (by omega) (by omega) (TA.all _) ⟨i_lo _, i_hi _⟩ dX8_put_64 (fun f6 H locs hT_f6 hP hD hS => ?_)
    have hP : va_P G cl [(a0, .inr (8, [.ref a1, .ref a2, .ref a3, .ref a4, .ref a5, .ref a6, .ref a7, .int v_ot_7])), (a1, .inl (cI, 30, .inl f2)), (a2, .inl (cI, 30, .inl f3)), (a3, .inl (cI, 30, .inl f4)), (a4, .inl (cI, 30, .inl f5)), (a5, .inl (cI, 30, .inl f6)), (a6, .inl (cI, 30, .inl g_ot_told)), (a7, .inl (cI, 30, .inl g_ot_untold))] H := hP
    have hD : va_D A [(a0, .inr (8, [.ref a1, .ref a2, .ref a3, .ref a4, .ref a5, .ref a6, .ref a7, .int v_ot_7])), (a1, .inl (cI, 30, .inl f2)), (a2, .inl (cI, 30, .inl f3)), (a3, .inl (cI, 30, .inl f4)), (a4, .inl (cI, 30, .inl f5)), (a5, .inl (cI, 30, .inl f6)), (a6, .inl (cI, 30, .inl g_ot_told)), (a7, .inl (cI, 30, .inl g_ot_untold))] := hD
    refine lv_aload_n hx hb dX8_put_65 rfl (lv_at hl 0 rfl) ?_
    refine k_get hC hK hP iX8 0 5 wf_X8_37 rfl (by decide) rfl rfl dX8_put_66 ?_
    refine lv_aload_n hx hb dX8_put_69 rfl (lv_at hl 0 rfl) ?_
    refine k_get hC hK hP iX8 0 7 wf_X8_9 rfl (by decide) rfl rfl dX8_put_70 ?_
    refine lv_iconst (v := 0) hx hb dX8_put_73 (by decide) ?_
    refine t_iast hC hK hP hD hS 6 rfl (by omega) (by omega) (TA.all _) ⟨i_lo _, i_hi _⟩ dX8_put_74 (fun f7 H locs hT_f7 hP hD hS => ?_)
    have hP : va_P G cl [(a0, .inr (8, [.ref a1, .ref a2, .ref a3, .ref a4, .ref a5, .ref a6, .ref a7, .int v_ot_7])), (a1, .inl (cI, 30, .inl f2)), (a2, .inl (cI, 30, .inl f3)), (a3, .inl (cI, 30, .inl f4)), (a4, .inl (cI, 30, .inl f5)), (a5, .inl (cI, 30, .inl f6)), (a6, .inl (cI, 30, .inl f7)), (a7, .inl (cI, 30, .inl g_ot_untold))] H := hP
    have hD : va_D A [(a0, .inr (8, [.ref a1, .ref a2, .ref a3, .ref a4, .ref a5, .ref a6, .ref a7, .int v_ot_7])), (a1, .inl (cI, 30, .inl f2)), (a2, .inl (cI, 30, .inl f3)), (a3, .inl (cI, 30, .inl f4)), (a4, .inl (cI, 30, .inl f5)), (a5, .inl (cI, 30, .inl f6)), (a6, .inl (cI, 30, .inl f7)), (a7, .inl (cI, 30, .inl g_ot_untold))] := hD
    refine lv_aload_n hx hb dX8_put_75 rfl (lv_at hl 0 rfl) ?_
    refine k_get hC hK hP iX8 0 6 wf_X8_40 rfl (by decide) rfl rfl dX8_put_76 ?_
    refine lv_aload_n hx hb dX8_put_79 rfl (lv_at hl 0 rfl) ?_
    refine k_get hC hK hP iX8 0 7 wf_X8_9 rfl (by decide) rfl rfl dX8_put_80 ?_
    refine lv_iconst (v := (-1)) hx hb dX8_put_83 (by decide) ?_
    refine t_iast hC hK hP hD hS 7 rfl (by omega) (by omega) (TA.all _) ⟨i_lo _, i_hi _⟩ dX8_put_84 (fun f8 H locs hT_f8 hP hD hS => ?_)
    have hP : va_P G cl [(a0, .inr (8, [.ref a1, .ref a2, .ref a3, .ref a4, .ref a5, .ref a6, .ref a7, .int v_ot_7])), (a1, .inl (cI, 30, .inl f2)), (a2, .inl (cI, 30, .inl f3)), (a3, .inl (cI, 30, .inl f4)), (a4, .inl (cI, 30, .inl f5)), (a5, .inl (cI, 30, .inl f6)), (a6, .inl (cI, 30, .inl f7)), (a7, .inl (cI, 30, .inl f8))] H := hP
    have hD : va_D A [(a0, .inr (8, [.ref a1, .ref a2, .ref a3, .ref a4, .ref a5, .ref a6, .ref a7, .int v_ot_7])), (a1, .inl (cI, 30, .inl f2)), (a2, .inl (cI, 30, .inl f3)), (a3, .inl (cI, 30, .inl f4)), (a4, .inl (cI, 30, .inl f5)), (a5, .inl (cI, 30, .inl f6)), (a6, .inl (cI, 30, .inl f7)), (a7, .inl (cI, 30, .inl f8))] := hD
    refine lv_aload_n hx hb dX8_put_85 rfl (lv_at hl 0 rfl) ?_
    refine lv_dup hx hb dX8_put_86 rfl ?_
    refine k_get hC hK hP iX8 0 7 wf_X8_9 rfl (by decide) rfl rfl dX8_put_87 ?_
    refine lv_iconst (v := 1) hx hb dX8_put_90 (by decide) ?_
    refine lv_iadd hx hb dX8_put_91 ?_
    refine t_i (fun q => q.toInt = v_ot_7.toInt + 1) (add_i (by show (-2147483648 : Int) ≤ v_ot_7.toInt + 1; omega) (by show v_ot_7.toInt + 1 ≤ (2147483647 : Int); omega)) (fun z9 tz9 => ?_)
    refine k_put hC hK hP hD hS iX8 tyX8_ok nmX8 0 7 wf_X8_9 rfl (by decide) rfl rfl rfl rfl (Nat.le_of_ble_eq_true rfl) dX8_put_92 (fun H locs hP hD hS => ?_)
    have hP : va_P G cl [(a0, .inr (8, [.ref a1, .ref a2, .ref a3, .ref a4, .ref a5, .ref a6, .ref a7, .int z9])), (a1, .inl (cI, 30, .inl f2)), (a2, .inl (cI, 30, .inl f3)), (a3, .inl (cI, 30, .inl f4)), (a4, .inl (cI, 30, .inl f5)), (a5, .inl (cI, 30, .inl f6)), (a6, .inl (cI, 30, .inl f7)), (a7, .inl (cI, 30, .inl f8))] H := hP
    have hD : va_D A [(a0, .inr (8, [.ref a1, .ref a2, .ref a3, .ref a4, .ref a5, .ref a6, .ref a7, .int z9])), (a1, .inl (cI, 30, .inl f2)), (a2, .inl (cI, 30, .inl f3)), (a3, .inl (cI, 30, .inl f4)), (a4, .inl (cI, 30, .inl f5)), (a5, .inl (cI, 30, .inl f6)), (a6, .inl (cI, 30, .inl f7)), (a7, .inl (cI, 30, .inl f8))] := hD
    rw [← hQm]
    exact k_vret hC hr hlk hK hP hD hS (z9, f2, f3, f4, f5, f6, f7, f8) [0, 1, 2, 3, 4, 5, 6, 7] rfl (by decide +kernel) (show 1 ≤ z9.toInt ∧ z9.toInt ≤ 30 from by omega) (Nat.le_of_ble_eq_true rfl) (Nat.le_of_ble_eq_true rfl) dX8_put_95
  · have dc1 : 30 ≤ v_ot_7.toInt := fa_nlt c1
    rw [← hQm]
    exact k_vret hC hr hlk hK hP hD hS (v_ot_7, g_ot_left, g_ot_right, g_ot_year, g_ot_trader, g_ot_how, g_ot_told, g_ot_untold) [0, 1, 2, 3, 4, 5, 6, 7] rfl (by decide +kernel) (show 1 ≤ v_ot_7.toInt ∧ v_ot_7.toInt ≤ 30 from by omega) (Nat.le_of_ble_eq_true rfl) (Nat.le_of_ble_eq_true rfl) dX8_put_12
set_option maxHeartbeats 4000000 in
set_option maxRecDepth 100000 in
theorem c7_X8_put (l : Launch) (G : va_G) (cI cJ cB cZ : ClassId) (a0 a1 a2 a3 a4 a5 a6 a7 : Nat) (b1 : Int32) (b2 : Int32) (b3 : Int32) (b4 : Int32) (b5 : Int32) (v_cn_7 : Int32) (g_cn_left : Nat → Int32) (g_cn_right : Nat → Int32) (g_cn_year : Nat → Int32) (g_cn_trader : Nat → Int32) (g_cn_how : Nat → Int32) (g_cn_told : Nat → Int32) (g_cn_untold : Nat → Int32) (hv_0 : 0 ≤ v_cn_7.toInt) (hv_1 : v_cn_7.toInt ≤ 46) : Con l G (TY cI cJ cB cZ) yX8_put cX8_put 6 none ({ frames := 0, cells := 0, slots := 0, locals := 0 } : Room) [.ref a0, .int b1, .int b2, .int b3, .int b4, .int b5] [(a0, .inr (8, [.ref a1, .ref a2, .ref a3, .ref a4, .ref a5, .ref a6, .ref a7, .int v_cn_7])), (a1, .inl (cI, 46, .inl g_cn_left)), (a2, .inl (cI, 46, .inl g_cn_right)), (a3, .inl (cI, 46, .inl g_cn_year)), (a4, .inl (cI, 46, .inl g_cn_trader)), (a5, .inl (cI, 46, .inl g_cn_how)), (a6, .inl (cI, 46, .inl g_cn_told)), (a7, .inl (cI, 46, .inl g_cn_untold))] (QV G (TY cI cJ cB cZ) (fun u : Int32 × (Nat → Int32) × (Nat → Int32) × (Nat → Int32) × (Nat → Int32) × (Nat → Int32) × (Nat → Int32) × (Nat → Int32) => (1 ≤ u.1.toInt ∧ u.1.toInt ≤ 46)) (fun u : Int32 × (Nat → Int32) × (Nat → Int32) × (Nat → Int32) × (Nat → Int32) × (Nat → Int32) × (Nat → Int32) × (Nat → Int32) => [(a0, .inr (8, [.ref a1, .ref a2, .ref a3, .ref a4, .ref a5, .ref a6, .ref a7, .int u.1])), (a1, .inl (cI, 46, .inl u.2.1)), (a2, .inl (cI, 46, .inl u.2.2.1)), (a3, .inl (cI, 46, .inl u.2.2.2.1)), (a4, .inl (cI, 46, .inl u.2.2.2.2.1)), (a5, .inl (cI, 46, .inl u.2.2.2.2.2.1)), (a6, .inl (cI, 46, .inl u.2.2.2.2.2.2.1)), (a7, .inl (cI, 46, .inl u.2.2.2.2.2.2.2))])) := by
  refine k_met (by decide) (Nat.le_of_ble_eq_true rfl) ?_
  intro p e s m below meth c A ls hC hr hlk hnm hN hZ hK hA hP hD hS hl
  have hl : lv_has ls 6 [(0, .ref a0), (1, .int b1), (2, .int b2), (3, .int b3), (4, .int b4), (5, .int b5)] := hl
  generalize hQm : MQ below _ _ s _ _ A = Qm
  generalize (List.toArray _ : Array Value) = args at hC hQm ⊢
  obtain ⟨hx, hb, hml, hown, hts⟩ := id hC
  obtain ⟨H, hH⟩ : ∃ q, q = s.heap := ⟨_, rfl⟩
  obtain ⟨locs, hlo⟩ : ∃ q : List Loc, q = [] := ⟨_, rfl⟩
  have hP : va_P G cl [(a0, .inr (8, [.ref a1, .ref a2, .ref a3, .ref a4, .ref a5, .ref a6, .ref a7, .int v_cn_7])), (a1, .inl (cI, 46, .inl g_cn_left)), (a2, .inl (cI, 46, .inl g_cn_right)), (a3, .inl (cI, 46, .inl g_cn_year)), (a4, .inl (cI, 46, .inl g_cn_trader)), (a5, .inl (cI, 46, .inl g_cn_how)), (a6, .inl (cI, 46, .inl g_cn_told)), (a7, .inl (cI, 46, .inl g_cn_untold))] H := by rw [hH]; exact hP
  have hS : va_S A s.heap H locs := by rw [hH, hlo]; exact hS
  rw [← hlo]
  rw [← hH]
  refine lv_aload_n hx hb dX8_put_0 rfl (lv_at hl 0 rfl) ?_
  refine k_get hC hK hP iX8 0 7 wf_X8_9 rfl (by decide) rfl rfl dX8_put_1 ?_
  refine lv_aload_n hx hb dX8_put_4 rfl (lv_at hl 0 rfl) ?_
  refine k_get hC hK hP iX8 0 0 wf_X8_21 rfl (by decide) rfl rfl dX8_put_5 ?_
  refine k_alen hC hK hP 1 0 46 rfl rfl rfl dX8_put_8 ?_
  refine lv_icmp_lt (tgt := 13) hx hb dX8_put_9 (by decide) (fun c1 => ?_) (fun c1 => ?_)
  · have dc1 : v_cn_7.toInt < 46 := (fa_lt _ _).mp c1
    refine lv_aload_n hx hb dX8_put_13 rfl (lv_at hl 0 rfl) ?_
    refine k_get hC hK hP iX8 0 0 wf_X8_21 rfl (by decide) rfl rfl dX8_put_14 ?_
    refine lv_aload_n hx hb dX8_put_17 rfl (lv_at hl 0 rfl) ?_
    refine k_get hC hK hP iX8 0 7 wf_X8_9 rfl (by decide) rfl rfl dX8_put_18 ?_
    refine lv_iload_n hx hb dX8_put_21 rfl (lv_at hl 1 rfl) ?_
    refine t_iast hC hK hP hD hS 1 rfl (by omega) (by omega) (TA.all _) ⟨i_lo _, i_hi _⟩ dX8_put_22 (fun f2 H locs hT_f2 hP hD hS => ?_)
    have hP : va_P G cl [(a0, .inr (8, [.ref a1, .ref a2, .ref a3, .ref a4, .ref a5, .ref a6, .ref a7, .int v_cn_7])), (a1, .inl (cI, 46, .inl f2)), (a2, .inl (cI, 46, .inl g_cn_right)), (a3, .inl (cI, 46, .inl g_cn_year)), (a4, .inl (cI, 46, .inl g_cn_trader)), (a5, .inl (cI, 46, .inl g_cn_how)), (a6, .inl (cI, 46, .inl g_cn_told)), (a7, .inl (cI, 46, .inl g_cn_untold))] H := hP
    have hD : va_D A [(a0, .inr (8, [.ref a1, .ref a2, .ref a3, .ref a4, .ref a5, .ref a6, .ref a7, .int v_cn_7])), (a1, .inl (cI, 46, .inl f2)), (a2, .inl (cI, 46, .inl g_cn_right)), (a3, .inl (cI, 46, .inl g_cn_year)), (a4, .inl (cI, 46, .inl g_cn_trader)), (a5, .inl (cI, 46, .inl g_cn_how)), (a6, .inl (cI, 46, .inl g_cn_told)), (a7, .inl (cI, 46, .inl g_cn_untold))] := hD
    refine lv_aload_n hx hb dX8_put_23 rfl (lv_at hl 0 rfl) ?_
    refine k_get hC hK hP iX8 0 1 wf_X8_25 rfl (by decide) rfl rfl dX8_put_24 ?_
    refine lv_aload_n hx hb dX8_put_27 rfl (lv_at hl 0 rfl) ?_
    refine k_get hC hK hP iX8 0 7 wf_X8_9 rfl (by decide) rfl rfl dX8_put_28 ?_
    refine lv_iload_n hx hb dX8_put_31 rfl (lv_at hl 2 rfl) ?_
    refine t_iast hC hK hP hD hS 2 rfl (by omega) (by omega) (TA.all _) ⟨i_lo _, i_hi _⟩ dX8_put_32 (fun f3 H locs hT_f3 hP hD hS => ?_)
    have hP : va_P G cl [(a0, .inr (8, [.ref a1, .ref a2, .ref a3, .ref a4, .ref a5, .ref a6, .ref a7, .int v_cn_7])), (a1, .inl (cI, 46, .inl f2)), (a2, .inl (cI, 46, .inl f3)), (a3, .inl (cI, 46, .inl g_cn_year)), (a4, .inl (cI, 46, .inl g_cn_trader)), (a5, .inl (cI, 46, .inl g_cn_how)), (a6, .inl (cI, 46, .inl g_cn_told)), (a7, .inl (cI, 46, .inl g_cn_untold))] H := hP
    have hD : va_D A [(a0, .inr (8, [.ref a1, .ref a2, .ref a3, .ref a4, .ref a5, .ref a6, .ref a7, .int v_cn_7])), (a1, .inl (cI, 46, .inl f2)), (a2, .inl (cI, 46, .inl f3)), (a3, .inl (cI, 46, .inl g_cn_year)), (a4, .inl (cI, 46, .inl g_cn_trader)), (a5, .inl (cI, 46, .inl g_cn_how)), (a6, .inl (cI, 46, .inl g_cn_told)), (a7, .inl (cI, 46, .inl g_cn_untold))] := hD
    refine lv_aload_n hx hb dX8_put_33 rfl (lv_at hl 0 rfl) ?_
    refine k_get hC hK hP iX8 0 2 wf_X8_28 rfl (by decide) rfl rfl dX8_put_34 ?_
    refine lv_aload_n hx hb dX8_put_37 rfl (lv_at hl 0 rfl) ?_
    refine k_get hC hK hP iX8 0 7 wf_X8_9 rfl (by decide) rfl rfl dX8_put_38 ?_
    refine lv_iload_n hx hb dX8_put_41 rfl (lv_at hl 3 rfl) ?_
    refine t_iast hC hK hP hD hS 3 rfl (by omega) (by omega) (TA.all _) ⟨i_lo _, i_hi _⟩ dX8_put_42 (fun f4 H locs hT_f4 hP hD hS => ?_)
    have hP : va_P G cl [(a0, .inr (8, [.ref a1, .ref a2, .ref a3, .ref a4, .ref a5, .ref a6, .ref a7, .int v_cn_7])), (a1, .inl (cI, 46, .inl f2)), (a2, .inl (cI, 46, .inl f3)), (a3, .inl (cI, 46, .inl f4)), (a4, .inl (cI, 46, .inl g_cn_trader)), (a5, .inl (cI, 46, .inl g_cn_how)), (a6, .inl (cI, 46, .inl g_cn_told)), (a7, .inl (cI, 46, .inl g_cn_untold))] H := hP
    have hD : va_D A [(a0, .inr (8, [.ref a1, .ref a2, .ref a3, .ref a4, .ref a5, .ref a6, .ref a7, .int v_cn_7])), (a1, .inl (cI, 46, .inl f2)), (a2, .inl (cI, 46, .inl f3)), (a3, .inl (cI, 46, .inl f4)), (a4, .inl (cI, 46, .inl g_cn_trader)), (a5, .inl (cI, 46, .inl g_cn_how)), (a6, .inl (cI, 46, .inl g_cn_told)), (a7, .inl (cI, 46, .inl g_cn_untold))] := hD
    refine lv_aload_n hx hb dX8_put_43 rfl (lv_at hl 0 rfl) ?_
    refine k_get hC hK hP iX8 0 3 wf_X8_31 rfl (by decide) rfl rfl dX8_put_44 ?_
    refine lv_aload_n hx hb dX8_put_47 rfl (lv_at hl 0 rfl) ?_
    refine k_get hC hK hP iX8 0 7 wf_X8_9 rfl (by decide) rfl rfl dX8_put_48 ?_
    refine lv_iload hx hb dX8_put_51 (lv_at hl 4 rfl) ?_
    refine t_iast hC hK hP hD hS 4 rfl (by omega) (by omega) (TA.all _) ⟨i_lo _, i_hi _⟩ dX8_put_53 (fun f5 H locs hT_f5 hP hD hS => ?_)
    have hP : va_P G cl [(a0, .inr (8, [.ref a1, .ref a2, .ref a3, .ref a4, .ref a5, .ref a6, .ref a7, .int v_cn_7])), (a1, .inl (cI, 46, .inl f2)), (a2, .inl (cI, 46, .inl f3)), (a3, .inl (cI, 46, .inl f4)), (a4, .inl (cI, 46, .inl f5)), (a5, .inl (cI, 46, .inl g_cn_how)), (a6, .inl (cI, 46, .inl g_cn_told)), (a7, .inl (cI, 46, .inl g_cn_untold))] H := hP
    have hD : va_D A [(a0, .inr (8, [.ref a1, .ref a2, .ref a3, .ref a4, .ref a5, .ref a6, .ref a7, .int v_cn_7])), (a1, .inl (cI, 46, .inl f2)), (a2, .inl (cI, 46, .inl f3)), (a3, .inl (cI, 46, .inl f4)), (a4, .inl (cI, 46, .inl f5)), (a5, .inl (cI, 46, .inl g_cn_how)), (a6, .inl (cI, 46, .inl g_cn_told)), (a7, .inl (cI, 46, .inl g_cn_untold))] := hD
    refine lv_aload_n hx hb dX8_put_54 rfl (lv_at hl 0 rfl) ?_
    refine k_get hC hK hP iX8 0 4 wf_X8_34 rfl (by decide) rfl rfl dX8_put_55 ?_
    refine lv_aload_n hx hb dX8_put_58 rfl (lv_at hl 0 rfl) ?_
    refine k_get hC hK hP iX8 0 7 wf_X8_9 rfl (by decide) rfl rfl dX8_put_59 ?_
    refine lv_iload hx hb dX8_put_62 (lv_at hl 5 rfl) ?_
    refine t_iast hC hK hP hD hS 5 rfl (by omega) (by omega) (TA.all _) ⟨i_lo _, i_hi _⟩ dX8_put_64 (fun f6 H locs hT_f6 hP hD hS => ?_)
    have hP : va_P G cl [(a0, .inr (8, [.ref a1, .ref a2, .ref a3, .ref a4, .ref a5, .ref a6, .ref a7, .int v_cn_7])), (a1, .inl (cI, 46, .inl f2)), (a2, .inl (cI, 46, .inl f3)), (a3, .inl (cI, 46, .inl f4)), (a4, .inl (cI, 46, .inl f5)), (a5, .inl (cI, 46, .inl f6)), (a6, .inl (cI, 46, .inl g_cn_told)), (a7, .inl (cI, 46, .inl g_cn_untold))] H := hP
    have hD : va_D A [(a0, .inr (8, [.ref a1, .ref a2, .ref a3, .ref a4, .ref a5, .ref a6, .ref a7, .int v_cn_7])), (a1, .inl (cI, 46, .inl f2)), (a2, .inl (cI, 46, .inl f3)), (a3, .inl (cI, 46, .inl f4)), (a4, .inl (cI, 46, .inl f5)), (a5, .inl (cI, 46, .inl f6)), (a6, .inl (cI, 46, .inl g_cn_told)), (a7, .inl (cI, 46, .inl g_cn_untold))] := hD
    refine lv_aload_n hx hb dX8_put_65 rfl (lv_at hl 0 rfl) ?_
    refine k_get hC hK hP iX8 0 5 wf_X8_37 rfl (by decide) rfl rfl dX8_put_66 ?_
    refine lv_aload_n hx hb dX8_put_69 rfl (lv_at hl 0 rfl) ?_
    refine k_get hC hK hP iX8 0 7 wf_X8_9 rfl (by decide) rfl rfl dX8_put_70 ?_
    refine lv_iconst (v := 0) hx hb dX8_put_73 (by decide) ?_
    refine t_iast hC hK hP hD hS 6 rfl (by omega) (by omega) (TA.all _) ⟨i_lo _, i_hi _⟩ dX8_put_74 (fun f7 H locs hT_f7 hP hD hS => ?_)
    have hP : va_P G cl [(a0, .inr (8, [.ref a1, .ref a2, .ref a3, .ref a4, .ref a5, .ref a6, .ref a7, .int v_cn_7])), (a1, .inl (cI, 46, .inl f2)), (a2, .inl (cI, 46, .inl f3)), (a3, .inl (cI, 46, .inl f4)), (a4, .inl (cI, 46, .inl f5)), (a5, .inl (cI, 46, .inl f6)), (a6, .inl (cI, 46, .inl f7)), (a7, .inl (cI, 46, .inl g_cn_untold))] H := hP
    have hD : va_D A [(a0, .inr (8, [.ref a1, .ref a2, .ref a3, .ref a4, .ref a5, .ref a6, .ref a7, .int v_cn_7])), (a1, .inl (cI, 46, .inl f2)), (a2, .inl (cI, 46, .inl f3)), (a3, .inl (cI, 46, .inl f4)), (a4, .inl (cI, 46, .inl f5)), (a5, .inl (cI, 46, .inl f6)), (a6, .inl (cI, 46, .inl f7)), (a7, .inl (cI, 46, .inl g_cn_untold))] := hD
    refine lv_aload_n hx hb dX8_put_75 rfl (lv_at hl 0 rfl) ?_
    refine k_get hC hK hP iX8 0 6 wf_X8_40 rfl (by decide) rfl rfl dX8_put_76 ?_
    refine lv_aload_n hx hb dX8_put_79 rfl (lv_at hl 0 rfl) ?_
    refine k_get hC hK hP iX8 0 7 wf_X8_9 rfl (by decide) rfl rfl dX8_put_80 ?_
    refine lv_iconst (v := (-1)) hx hb dX8_put_83 (by decide) ?_
    refine t_iast hC hK hP hD hS 7 rfl (by omega) (by omega) (TA.all _) ⟨i_lo _, i_hi _⟩ dX8_put_84 (fun f8 H locs hT_f8 hP hD hS => ?_)
    have hP : va_P G cl [(a0, .inr (8, [.ref a1, .ref a2, .ref a3, .ref a4, .ref a5, .ref a6, .ref a7, .int v_cn_7])), (a1, .inl (cI, 46, .inl f2)), (a2, .inl (cI, 46, .inl f3)), (a3, .inl (cI, 46, .inl f4)), (a4, .inl (cI, 46, .inl f5)), (a5, .inl (cI, 46, .inl f6)), (a6, .inl (cI, 46, .inl f7)), (a7, .inl (cI, 46, .inl f8))] H := hP
    have hD : va_D A [(a0, .inr (8, [.ref a1, .ref a2, .ref a3, .ref a4, .ref a5, .ref a6, .ref a7, .int v_cn_7])), (a1, .inl (cI, 46, .inl f2)), (a2, .inl (cI, 46, .inl f3)), (a3, .inl (cI, 46, .inl f4)), (a4, .inl (cI, 46, .inl f5)), (a5, .inl (cI, 46, .inl f6)), (a6, .inl (cI, 46, .inl f7)), (a7, .inl (cI, 46, .inl f8))] := hD
    refine lv_aload_n hx hb dX8_put_85 rfl (lv_at hl 0 rfl) ?_
    refine lv_dup hx hb dX8_put_86 rfl ?_
    refine k_get hC hK hP iX8 0 7 wf_X8_9 rfl (by decide) rfl rfl dX8_put_87 ?_
    refine lv_iconst (v := 1) hx hb dX8_put_90 (by decide) ?_
    refine lv_iadd hx hb dX8_put_91 ?_
    refine t_i (fun q => q.toInt = v_cn_7.toInt + 1) (add_i (by show (-2147483648 : Int) ≤ v_cn_7.toInt + 1; omega) (by show v_cn_7.toInt + 1 ≤ (2147483647 : Int); omega)) (fun z9 tz9 => ?_)
    refine k_put hC hK hP hD hS iX8 tyX8_ok nmX8 0 7 wf_X8_9 rfl (by decide) rfl rfl rfl rfl (Nat.le_of_ble_eq_true rfl) dX8_put_92 (fun H locs hP hD hS => ?_)
    have hP : va_P G cl [(a0, .inr (8, [.ref a1, .ref a2, .ref a3, .ref a4, .ref a5, .ref a6, .ref a7, .int z9])), (a1, .inl (cI, 46, .inl f2)), (a2, .inl (cI, 46, .inl f3)), (a3, .inl (cI, 46, .inl f4)), (a4, .inl (cI, 46, .inl f5)), (a5, .inl (cI, 46, .inl f6)), (a6, .inl (cI, 46, .inl f7)), (a7, .inl (cI, 46, .inl f8))] H := hP
    have hD : va_D A [(a0, .inr (8, [.ref a1, .ref a2, .ref a3, .ref a4, .ref a5, .ref a6, .ref a7, .int z9])), (a1, .inl (cI, 46, .inl f2)), (a2, .inl (cI, 46, .inl f3)), (a3, .inl (cI, 46, .inl f4)), (a4, .inl (cI, 46, .inl f5)), (a5, .inl (cI, 46, .inl f6)), (a6, .inl (cI, 46, .inl f7)), (a7, .inl (cI, 46, .inl f8))] := hD
    rw [← hQm]
    exact k_vret hC hr hlk hK hP hD hS (z9, f2, f3, f4, f5, f6, f7, f8) [0, 1, 2, 3, 4, 5, 6, 7] rfl (by decide +kernel) (show 1 ≤ z9.toInt ∧ z9.toInt ≤ 46 from by omega) (Nat.le_of_ble_eq_true rfl) (Nat.le_of_ble_eq_true rfl) dX8_put_95
  · have dc1 : 46 ≤ v_cn_7.toInt := fa_nlt c1
    rw [← hQm]
    exact k_vret hC hr hlk hK hP hD hS (v_cn_7, g_cn_left, g_cn_right, g_cn_year, g_cn_trader, g_cn_how, g_cn_told, g_cn_untold) [0, 1, 2, 3, 4, 5, 6, 7] rfl (by decide +kernel) (show 1 ≤ v_cn_7.toInt ∧ v_cn_7.toInt ≤ 46 from by omega) (Nat.le_of_ble_eq_true rfl) (Nat.le_of_ble_eq_true rfl) dX8_put_12
theorem dX8_putFrom_0 : decode cX8_putFrom 0 = .ok (.iload_n 2, 1) := by decide +kernel
theorem dX8_putFrom_1 : decode cX8_putFrom 1 = .ok (.ifCond .lt 45, 3) := by decide +kernel
theorem dX8_putFrom_46 : decode cX8_putFrom 46 = .ok (.return_, 1) := by decide +kernel
theorem dX8_putFrom_4 : decode cX8_putFrom 4 = .ok (.iload_n 2, 1) := by decide +kernel
theorem dX8_putFrom_5 : decode cX8_putFrom 5 = .ok (.aload_n 1, 1) := by decide +kernel
theorem dX8_putFrom_6 : decode cX8_putFrom 6 = .ok (.getfield 9, 3) := by decide +kernel
theorem dX8_putFrom_9 : decode cX8_putFrom 9 = .ok (.if_icmp .ge 37, 3) := by decide +kernel
theorem dX8_putFrom_12 : decode cX8_putFrom 12 = .ok (.aload_n 0, 1) := by decide +kernel
theorem dX8_putFrom_13 : decode cX8_putFrom 13 = .ok (.aload_n 1, 1) := by decide +kernel
theorem dX8_putFrom_14 : decode cX8_putFrom 14 = .ok (.getfield 21, 3) := by decide +kernel
theorem dX8_putFrom_17 : decode cX8_putFrom 17 = .ok (.iload_n 2, 1) := by decide +kernel
theorem dX8_putFrom_18 : decode cX8_putFrom 18 = .ok (.iaload, 1) := by decide +kernel
theorem dX8_putFrom_19 : decode cX8_putFrom 19 = .ok (.aload_n 1, 1) := by decide +kernel
theorem dX8_putFrom_20 : decode cX8_putFrom 20 = .ok (.getfield 25, 3) := by decide +kernel
theorem dX8_putFrom_23 : decode cX8_putFrom 23 = .ok (.iload_n 2, 1) := by decide +kernel
theorem dX8_putFrom_24 : decode cX8_putFrom 24 = .ok (.iaload, 1) := by decide +kernel
theorem dX8_putFrom_25 : decode cX8_putFrom 25 = .ok (.aload_n 1, 1) := by decide +kernel
theorem dX8_putFrom_26 : decode cX8_putFrom 26 = .ok (.getfield 28, 3) := by decide +kernel
theorem dX8_putFrom_29 : decode cX8_putFrom 29 = .ok (.iload_n 2, 1) := by decide +kernel
theorem dX8_putFrom_30 : decode cX8_putFrom 30 = .ok (.iaload, 1) := by decide +kernel
theorem dX8_putFrom_31 : decode cX8_putFrom 31 = .ok (.aload_n 1, 1) := by decide +kernel
theorem dX8_putFrom_32 : decode cX8_putFrom 32 = .ok (.getfield 31, 3) := by decide +kernel
theorem dX8_putFrom_35 : decode cX8_putFrom 35 = .ok (.iload_n 2, 1) := by decide +kernel
theorem dX8_putFrom_36 : decode cX8_putFrom 36 = .ok (.iaload, 1) := by decide +kernel
theorem dX8_putFrom_37 : decode cX8_putFrom 37 = .ok (.aload_n 1, 1) := by decide +kernel
theorem dX8_putFrom_38 : decode cX8_putFrom 38 = .ok (.getfield 34, 3) := by decide +kernel
theorem dX8_putFrom_41 : decode cX8_putFrom 41 = .ok (.iload_n 2, 1) := by decide +kernel
theorem dX8_putFrom_42 : decode cX8_putFrom 42 = .ok (.iaload, 1) := by decide +kernel
theorem dX8_putFrom_43 : decode cX8_putFrom 43 = .ok (.invokevirtual 43, 3) := by decide +kernel
set_option maxRecDepth 100000 in
theorem wm_X8_43 : Cond.methodLink RX8 43 yX8_put ∈ gw := gm (List.mem_of_getElem? (i := 827) (by decide +kernel)) rfl
set_option maxRecDepth 100000 in
theorem mi_X8_put : MI yX8_put cX8_put 6 none 5 := ⟨gm (List.mem_of_getElem? (i := 715) rfl) rfl, gm (List.mem_of_getElem? (i := 114) (by decide +kernel)) rfl, by decide, by decide, by decide +kernel⟩
set_option maxRecDepth 100000 in
theorem in_X8_put : Cond.instanceMethod yX8_put ∈ gw := gm (List.mem_of_getElem? (i := 713) (by decide +kernel)) rfl
set_option maxRecDepth 100000 in
theorem se_X8_put : Cond.selects yX8_put.cls yX8_put yX8_put ∈ gw := gm (List.mem_of_getElem? (i := 714) (by decide +kernel)) rfl
set_option maxHeartbeats 4000000 in
set_option maxRecDepth 100000 in
theorem c8_X8_putFrom (l : Launch) (G : va_G) (cI cJ cB cZ : ClassId) (a0 a1 a2 a3 a4 a5 a6 a7 a8 a9 a10 a11 a12 a13 a14 a15 : Nat) (b2 : Int32) (v_ot_7 : Int32) (v_cn_7 : Int32) (g_ot_left : Nat → Int32) (g_ot_right : Nat → Int32) (g_ot_year : Nat → Int32) (g_ot_trader : Nat → Int32) (g_ot_how : Nat → Int32) (g_cn_left : Nat → Int32) (g_cn_right : Nat → Int32) (g_cn_year : Nat → Int32) (g_cn_trader : Nat → Int32) (g_cn_how : Nat → Int32) (g_cn_told : Nat → Int32) (g_cn_untold : Nat → Int32) (hv_0 : 0 ≤ v_ot_7.toInt) (hv_1 : v_ot_7.toInt ≤ 30) (hv_2 : 0 ≤ v_cn_7.toInt) (hv_3 : v_cn_7.toInt ≤ 46) : Con l G (TY cI cJ cB cZ) yX8_putFrom cX8_putFrom 3 none ({ frames := 1, cells := 0, slots := 0, locals := 25 } : Room) [.ref a0, .ref a1, .int b2] [(a1, .inr (8, [.ref a2, .ref a3, .ref a4, .ref a5, .ref a6, .ref a7, .ref a8, .int v_ot_7])), (a2, .inl (cI, 30, .inl g_ot_left)), (a3, .inl (cI, 30, .inl g_ot_right)), (a4, .inl (cI, 30, .inl g_ot_year)), (a5, .inl (cI, 30, .inl g_ot_trader)), (a6, .inl (cI, 30, .inl g_ot_how)), (a0, .inr (8, [.ref a9, .ref a10, .ref a11, .ref a12, .ref a13, .ref a14, .ref a15, .int v_cn_7])), (a9, .inl (cI, 46, .inl g_cn_left)), (a10, .inl (cI, 46, .inl g_cn_right)), (a11, .inl (cI, 46, .inl g_cn_year)), (a12, .inl (cI, 46, .inl g_cn_trader)), (a13, .inl (cI, 46, .inl g_cn_how)), (a14, .inl (cI, 46, .inl g_cn_told)), (a15, .inl (cI, 46, .inl g_cn_untold))] (QV G (TY cI cJ cB cZ) (fun u : Int32 × (Nat → Int32) × (Nat → Int32) × (Nat → Int32) × (Nat → Int32) × (Nat → Int32) × (Nat → Int32) × (Nat → Int32) => (0 ≤ u.1.toInt ∧ u.1.toInt ≤ 46)) (fun u : Int32 × (Nat → Int32) × (Nat → Int32) × (Nat → Int32) × (Nat → Int32) × (Nat → Int32) × (Nat → Int32) × (Nat → Int32) => [(a1, .inr (8, [.ref a2, .ref a3, .ref a4, .ref a5, .ref a6, .ref a7, .ref a8, .int v_ot_7])), (a2, .inl (cI, 30, .inl g_ot_left)), (a3, .inl (cI, 30, .inl g_ot_right)), (a4, .inl (cI, 30, .inl g_ot_year)), (a5, .inl (cI, 30, .inl g_ot_trader)), (a6, .inl (cI, 30, .inl g_ot_how)), (a0, .inr (8, [.ref a9, .ref a10, .ref a11, .ref a12, .ref a13, .ref a14, .ref a15, .int u.1])), (a9, .inl (cI, 46, .inl u.2.1)), (a10, .inl (cI, 46, .inl u.2.2.1)), (a11, .inl (cI, 46, .inl u.2.2.2.1)), (a12, .inl (cI, 46, .inl u.2.2.2.2.1)), (a13, .inl (cI, 46, .inl u.2.2.2.2.2.1)), (a14, .inl (cI, 46, .inl u.2.2.2.2.2.2.1)), (a15, .inl (cI, 46, .inl u.2.2.2.2.2.2.2))])) := by
  refine k_met (by decide) (Nat.le_of_ble_eq_true rfl) ?_
  intro p e s m below meth c A ls hC hr hlk hnm hN hZ hK hA hP hD hS hl
  have hl : lv_has ls 3 [(0, .ref a0), (1, .ref a1), (2, .int b2)] := hl
  generalize hQm : MQ below _ _ s _ _ A = Qm
  generalize (List.toArray _ : Array Value) = args at hC hQm ⊢
  obtain ⟨hx, hb, hml, hown, hts⟩ := id hC
  obtain ⟨H, hH⟩ : ∃ q, q = s.heap := ⟨_, rfl⟩
  obtain ⟨locs, hlo⟩ : ∃ q : List Loc, q = [] := ⟨_, rfl⟩
  have hP : va_P G cl [(a1, .inr (8, [.ref a2, .ref a3, .ref a4, .ref a5, .ref a6, .ref a7, .ref a8, .int v_ot_7])), (a2, .inl (cI, 30, .inl g_ot_left)), (a3, .inl (cI, 30, .inl g_ot_right)), (a4, .inl (cI, 30, .inl g_ot_year)), (a5, .inl (cI, 30, .inl g_ot_trader)), (a6, .inl (cI, 30, .inl g_ot_how)), (a0, .inr (8, [.ref a9, .ref a10, .ref a11, .ref a12, .ref a13, .ref a14, .ref a15, .int v_cn_7])), (a9, .inl (cI, 46, .inl g_cn_left)), (a10, .inl (cI, 46, .inl g_cn_right)), (a11, .inl (cI, 46, .inl g_cn_year)), (a12, .inl (cI, 46, .inl g_cn_trader)), (a13, .inl (cI, 46, .inl g_cn_how)), (a14, .inl (cI, 46, .inl g_cn_told)), (a15, .inl (cI, 46, .inl g_cn_untold))] H := by rw [hH]; exact hP
  have hS : va_S A s.heap H locs := by rw [hH, hlo]; exact hS
  rw [← hlo]
  rw [← hH]
  refine lv_iload_n hx hb dX8_putFrom_0 rfl (lv_at hl 2 rfl) ?_
  refine lv_if_lt (tgt := 46) hx hb dX8_putFrom_1 (by decide) (fun c1 => ?_) (fun c1 => ?_)
  · have dc1 : b2.toInt < 0 := (fa_lt _ _).mp c1; have lbc1_0 := i_lo b2; have ubc1_0 := i_hi b2
    rw [← hQm]
    exact k_vret hC hr hlk hK hP hD hS (v_cn_7, g_cn_left, g_cn_right, g_cn_year, g_cn_trader, g_cn_how, g_cn_told, g_cn_untold) [0, 1, 2, 3, 4, 5, 6, 7, 8, 9, 10, 11, 12, 13] rfl (by decide +kernel) (show 0 ≤ v_cn_7.toInt ∧ v_cn_7.toInt ≤ 46 from by omega) (Nat.le_of_ble_eq_true rfl) (Nat.le_of_ble_eq_true rfl) dX8_putFrom_46
  · have dc1 : 0 ≤ b2.toInt := fa_nlt c1; have lbc1_0 := i_lo b2; have ubc1_0 := i_hi b2
    refine lv_iload_n hx hb dX8_putFrom_4 rfl (lv_at hl 2 rfl) ?_
    refine lv_aload_n hx hb dX8_putFrom_5 rfl (lv_at hl 1 rfl) ?_
    refine k_get hC hK hP iX8 0 7 wf_X8_9 rfl (by decide) rfl rfl dX8_putFrom_6 ?_
    refine lv_icmp_ge (tgt := 46) hx hb dX8_putFrom_9 (by decide) (fun c2 => ?_) (fun c2 => ?_)
    · have dc2 : v_ot_7.toInt ≤ b2.toInt := (fa_le _ _).mp c2; have ubc2_1 := i_hi b2
      rw [← hQm]
      exact k_vret hC hr hlk hK hP hD hS (v_cn_7, g_cn_left, g_cn_right, g_cn_year, g_cn_trader, g_cn_how, g_cn_told, g_cn_untold) [0, 1, 2, 3, 4, 5, 6, 7, 8, 9, 10, 11, 12, 13] rfl (by decide +kernel) (show 0 ≤ v_cn_7.toInt ∧ v_cn_7.toInt ≤ 46 from by omega) (Nat.le_of_ble_eq_true rfl) (Nat.le_of_ble_eq_true rfl) dX8_putFrom_46
    · have dc2 : b2.toInt < v_ot_7.toInt := fa_nle c2; have ubc2_1 := i_hi b2
      refine lv_aload_n hx hb dX8_putFrom_12 rfl (lv_at hl 0 rfl) ?_
      refine lv_aload_n hx hb dX8_putFrom_13 rfl (lv_at hl 1 rfl) ?_
      refine k_get hC hK hP iX8 0 0 wf_X8_21 rfl (by decide) rfl rfl dX8_putFrom_14 ?_
      refine lv_iload_n hx hb dX8_putFrom_17 rfl (lv_at hl 2 rfl) ?_
      refine t_iald hC hK hP 1 rfl (by omega) (by omega) (TA.all _) dX8_putFrom_18 (fun z3 tz3 => ?_)
      refine lv_aload_n hx hb dX8_putFrom_19 rfl (lv_at hl 1 rfl) ?_
      refine k_get hC hK hP iX8 0 1 wf_X8_25 rfl (by decide) rfl rfl dX8_putFrom_20 ?_
      refine lv_iload_n hx hb dX8_putFrom_23 rfl (lv_at hl 2 rfl) ?_
      refine t_iald hC hK hP 2 rfl (by omega) (by omega) (TA.all _) dX8_putFrom_24 (fun z4 tz4 => ?_)
      refine lv_aload_n hx hb dX8_putFrom_25 rfl (lv_at hl 1 rfl) ?_
      refine k_get hC hK hP iX8 0 2 wf_X8_28 rfl (by decide) rfl rfl dX8_putFrom_26 ?_
      refine lv_iload_n hx hb dX8_putFrom_29 rfl (lv_at hl 2 rfl) ?_
      refine t_iald hC hK hP 3 rfl (by omega) (by omega) (TA.all _) dX8_putFrom_30 (fun z5 tz5 => ?_)
      refine lv_aload_n hx hb dX8_putFrom_31 rfl (lv_at hl 1 rfl) ?_
      refine k_get hC hK hP iX8 0 3 wf_X8_31 rfl (by decide) rfl rfl dX8_putFrom_32 ?_
      refine lv_iload_n hx hb dX8_putFrom_35 rfl (lv_at hl 2 rfl) ?_
      refine t_iald hC hK hP 4 rfl (by omega) (by omega) (TA.all _) dX8_putFrom_36 (fun z6 tz6 => ?_)
      refine lv_aload_n hx hb dX8_putFrom_37 rfl (lv_at hl 1 rfl) ?_
      refine k_get hC hK hP iX8 0 4 wf_X8_34 rfl (by decide) rfl rfl dX8_putFrom_38 ?_
      refine lv_iload_n hx hb dX8_putFrom_41 rfl (lv_at hl 2 rfl) ?_
      refine t_iald hC hK hP 5 rfl (by omega) (by omega) (TA.all _) dX8_putFrom_42 (fun z7 tz7 => ?_)
      refine k_cv (wr := [(a1, .inr (8, [.ref a2, .ref a3, .ref a4, .ref a5, .ref a6, .ref a7, .ref a8, .int v_ot_7])), (a2, .inl (cI, 30, .inl g_ot_left)), (a3, .inl (cI, 30, .inl g_ot_right)), (a4, .inl (cI, 30, .inl g_ot_year)), (a5, .inl (cI, 30, .inl g_ot_trader)), (a6, .inl (cI, 30, .inl g_ot_how))]) (k_rV hC hN hZ hS hA hK hP hD (c7_X8_put l G cI cJ cB cZ a0 a9 a10 a11 a12 a13 a14 a15 z3 z4 z5 z6 z7 v_cn_7 g_cn_left g_cn_right g_cn_year g_cn_trader g_cn_how g_cn_told g_cn_untold hv_2 hv_3) [6, 7, 8, 9, 10, 11, 12, 13] rfl (by decide +kernel) mi_X8_put in_X8_put se_X8_put wm_X8_43 8 6 rfl rfl rfl hl.1 rfl rfl (Nat.le_of_ble_eq_true rfl) ⟨(Nat.le_of_ble_eq_true rfl), (Nat.le_of_ble_eq_true rfl)⟩ dX8_putFrom_43 ⟨(Nat.le_of_ble_eq_true rfl), (Nat.le_of_ble_eq_true rfl)⟩) hP hD hS hA [6, 7, 8, 9, 10, 11, 12, 13] [0, 1, 2, 3, 4, 5] rfl rfl (by decide +kernel) (by decide +kernel) (fun u8 H locs hp hP hD hS => ?_)
      obtain ⟨h9, f10, f11, f12, f13, f14, f15, f16⟩ := u8
      have hp : (1 ≤ h9.toInt ∧ h9.toInt ≤ 46) := hp
      have hP : va_P G cl [(a1, .inr (8, [.ref a2, .ref a3, .ref a4, .ref a5, .ref a6, .ref a7, .ref a8, .int v_ot_7])), (a2, .inl (cI, 30, .inl g_ot_left)), (a3, .inl (cI, 30, .inl g_ot_right)), (a4, .inl (cI, 30, .inl g_ot_year)), (a5, .inl (cI, 30, .inl g_ot_trader)), (a6, .inl (cI, 30, .inl g_ot_how)), (a0, .inr (8, [.ref a9, .ref a10, .ref a11, .ref a12, .ref a13, .ref a14, .ref a15, .int h9])), (a9, .inl (cI, 46, .inl f10)), (a10, .inl (cI, 46, .inl f11)), (a11, .inl (cI, 46, .inl f12)), (a12, .inl (cI, 46, .inl f13)), (a13, .inl (cI, 46, .inl f14)), (a14, .inl (cI, 46, .inl f15)), (a15, .inl (cI, 46, .inl f16))] H := hP
      have hD : va_D A [(a1, .inr (8, [.ref a2, .ref a3, .ref a4, .ref a5, .ref a6, .ref a7, .ref a8, .int v_ot_7])), (a2, .inl (cI, 30, .inl g_ot_left)), (a3, .inl (cI, 30, .inl g_ot_right)), (a4, .inl (cI, 30, .inl g_ot_year)), (a5, .inl (cI, 30, .inl g_ot_trader)), (a6, .inl (cI, 30, .inl g_ot_how)), (a0, .inr (8, [.ref a9, .ref a10, .ref a11, .ref a12, .ref a13, .ref a14, .ref a15, .int h9])), (a9, .inl (cI, 46, .inl f10)), (a10, .inl (cI, 46, .inl f11)), (a11, .inl (cI, 46, .inl f12)), (a12, .inl (cI, 46, .inl f13)), (a13, .inl (cI, 46, .inl f14)), (a14, .inl (cI, 46, .inl f15)), (a15, .inl (cI, 46, .inl f16))] := hD
      have hq8 := hp
      rw [← hQm]
      exact k_vret hC hr hlk hK hP hD hS (h9, f10, f11, f12, f13, f14, f15, f16) [0, 1, 2, 3, 4, 5, 6, 7, 8, 9, 10, 11, 12, 13] rfl (by decide +kernel) (show 0 ≤ h9.toInt ∧ h9.toInt ≤ 46 from by omega) (Nat.le_of_ble_eq_true rfl) (Nat.le_of_ble_eq_true rfl) dX8_putFrom_46
theorem dX8_setTold_0 : decode cX8_setTold 0 = .ok (.iload_n 1, 1) := by decide +kernel
theorem dX8_setTold_1 : decode cX8_setTold 1 = .ok (.ifCond .lt 18, 3) := by decide +kernel
theorem dX8_setTold_19 : decode cX8_setTold 19 = .ok (.return_, 1) := by decide +kernel
theorem dX8_setTold_4 : decode cX8_setTold 4 = .ok (.iload_n 1, 1) := by decide +kernel
theorem dX8_setTold_5 : decode cX8_setTold 5 = .ok (.aload_n 0, 1) := by decide +kernel
theorem dX8_setTold_6 : decode cX8_setTold 6 = .ok (.getfield 9, 3) := by decide +kernel
theorem dX8_setTold_9 : decode cX8_setTold 9 = .ok (.if_icmp .ge 10, 3) := by decide +kernel
theorem dX8_setTold_12 : decode cX8_setTold 12 = .ok (.aload_n 0, 1) := by decide +kernel
theorem dX8_setTold_13 : decode cX8_setTold 13 = .ok (.getfield 37, 3) := by decide +kernel
theorem dX8_setTold_16 : decode cX8_setTold 16 = .ok (.iload_n 1, 1) := by decide +kernel
theorem dX8_setTold_17 : decode cX8_setTold 17 = .ok (.iload_n 2, 1) := by decide +kernel
theorem dX8_setTold_18 : decode cX8_setTold 18 = .ok (.iastore, 1) := by decide +kernel
set_option maxHeartbeats 4000000 in
set_option maxRecDepth 100000 in
theorem c9_X8_setTold (l : Launch) (G : va_G) (cI cJ cB cZ : ClassId) (a0 a1 a2 a3 a4 a5 a6 a7 : Nat) (b1 : Int32) (b2 : Int32) (v_ot_7 : Int32) (g_ot_told : Nat → Int32) (hv_0 : 0 ≤ v_ot_7.toInt) (hv_1 : v_ot_7.toInt ≤ 30) : Con l G (TY cI cJ cB cZ) yX8_setTold cX8_setTold 3 none ({ frames := 0, cells := 0, slots := 0, locals := 0 } : Room) [.ref a0, .int b1, .int b2] [(a0, .inr (8, [.ref a1, .ref a2, .ref a3, .ref a4, .ref a5, .ref a6, .ref a7, .int v_ot_7])), (a6, .inl (cI, 30, .inl g_ot_told))] (QV G (TY cI cJ cB cZ) (fun u : (Nat → Int32) => (True)) (fun u : (Nat → Int32) => [(a0, .inr (8, [.ref a1, .ref a2, .ref a3, .ref a4, .ref a5, .ref a6, .ref a7, .int v_ot_7])), (a6, .inl (cI, 30, .inl u))])) := by
  refine k_met (by decide) (Nat.le_of_ble_eq_true rfl) ?_
  intro p e s m below meth c A ls hC hr hlk hnm hN hZ hK hA hP hD hS hl
  have hl : lv_has ls 3 [(0, .ref a0), (1, .int b1), (2, .int b2)] := hl
  generalize hQm : MQ below _ _ s _ _ A = Qm
  generalize (List.toArray _ : Array Value) = args at hC hQm ⊢
  obtain ⟨hx, hb, hml, hown, hts⟩ := id hC
  obtain ⟨H, hH⟩ : ∃ q, q = s.heap := ⟨_, rfl⟩
  obtain ⟨locs, hlo⟩ : ∃ q : List Loc, q = [] := ⟨_, rfl⟩
  have hP : va_P G cl [(a0, .inr (8, [.ref a1, .ref a2, .ref a3, .ref a4, .ref a5, .ref a6, .ref a7, .int v_ot_7])), (a6, .inl (cI, 30, .inl g_ot_told))] H := by rw [hH]; exact hP
  have hS : va_S A s.heap H locs := by rw [hH, hlo]; exact hS
  rw [← hlo]
  rw [← hH]
  refine lv_iload_n hx hb dX8_setTold_0 rfl (lv_at hl 1 rfl) ?_
  refine lv_if_lt (tgt := 19) hx hb dX8_setTold_1 (by decide) (fun c1 => ?_) (fun c1 => ?_)
  · have dc1 : b1.toInt < 0 := (fa_lt _ _).mp c1; have lbc1_0 := i_lo b1; have ubc1_0 := i_hi b1
    rw [← hQm]
    exact k_vret hC hr hlk hK hP hD hS g_ot_told [0, 1] rfl (by decide +kernel) trivial (Nat.le_of_ble_eq_true rfl) (Nat.le_of_ble_eq_true rfl) dX8_setTold_19
  · have dc1 : 0 ≤ b1.toInt := fa_nlt c1; have lbc1_0 := i_lo b1; have ubc1_0 := i_hi b1
    refine lv_iload_n hx hb dX8_setTold_4 rfl (lv_at hl 1 rfl) ?_
    refine lv_aload_n hx hb dX8_setTold_5 rfl (lv_at hl 0 rfl) ?_
    refine k_get hC hK hP iX8 0 7 wf_X8_9 rfl (by decide) rfl rfl dX8_setTold_6 ?_
    refine lv_icmp_ge (tgt := 19) hx hb dX8_setTold_9 (by decide) (fun c2 => ?_) (fun c2 => ?_)
    · have dc2 : v_ot_7.toInt ≤ b1.toInt := (fa_le _ _).mp c2; have ubc2_1 := i_hi b1
      rw [← hQm]
      exact k_vret hC hr hlk hK hP hD hS g_ot_told [0, 1] rfl (by decide +kernel) trivial (Nat.le_of_ble_eq_true rfl) (Nat.le_of_ble_eq_true rfl) dX8_setTold_19
    · have dc2 : b1.toInt < v_ot_7.toInt := fa_nle c2; have ubc2_1 := i_hi b1
      refine lv_aload_n hx hb dX8_setTold_12 rfl (lv_at hl 0 rfl) ?_
      refine k_get hC hK hP iX8 0 5 wf_X8_37 rfl (by decide) rfl rfl dX8_setTold_13 ?_
      refine lv_iload_n hx hb dX8_setTold_16 rfl (lv_at hl 1 rfl) ?_
      refine lv_iload_n hx hb dX8_setTold_17 rfl (lv_at hl 2 rfl) ?_
      refine t_iast hC hK hP hD hS 1 rfl (by omega) (by omega) (TA.all _) ⟨i_lo _, i_hi _⟩ dX8_setTold_18 (fun f3 H locs hT_f3 hP hD hS => ?_)
      have hP : va_P G cl [(a0, .inr (8, [.ref a1, .ref a2, .ref a3, .ref a4, .ref a5, .ref a6, .ref a7, .int v_ot_7])), (a6, .inl (cI, 30, .inl f3))] H := hP
      have hD : va_D A [(a0, .inr (8, [.ref a1, .ref a2, .ref a3, .ref a4, .ref a5, .ref a6, .ref a7, .int v_ot_7])), (a6, .inl (cI, 30, .inl f3))] := hD
      rw [← hQm]
      exact k_vret hC hr hlk hK hP hD hS f3 [0, 1] rfl (by decide +kernel) trivial (Nat.le_of_ble_eq_true rfl) (Nat.le_of_ble_eq_true rfl) dX8_setTold_19
theorem dX8_setUntold_0 : decode cX8_setUntold 0 = .ok (.iload_n 1, 1) := by decide +kernel
theorem dX8_setUntold_1 : decode cX8_setUntold 1 = .ok (.ifCond .lt 20, 3) := by decide +kernel
theorem dX8_setUntold_21 : decode cX8_setUntold 21 = .ok (.iconst 0, 1) := by decide +kernel
theorem dX8_setUntold_22 : decode cX8_setUntold 22 = .ok (.ireturn, 1) := by decide +kernel
theorem dX8_setUntold_4 : decode cX8_setUntold 4 = .ok (.iload_n 1, 1) := by decide +kernel
theorem dX8_setUntold_5 : decode cX8_setUntold 5 = .ok (.aload_n 0, 1) := by decide +kernel
theorem dX8_setUntold_6 : decode cX8_setUntold 6 = .ok (.getfield 9, 3) := by decide +kernel
theorem dX8_setUntold_9 : decode cX8_setUntold 9 = .ok (.if_icmp .ge 12, 3) := by decide +kernel
theorem dX8_setUntold_12 : decode cX8_setUntold 12 = .ok (.aload_n 0, 1) := by decide +kernel
theorem dX8_setUntold_13 : decode cX8_setUntold 13 = .ok (.getfield 40, 3) := by decide +kernel
theorem dX8_setUntold_16 : decode cX8_setUntold 16 = .ok (.iload_n 1, 1) := by decide +kernel
theorem dX8_setUntold_17 : decode cX8_setUntold 17 = .ok (.iaload, 1) := by decide +kernel
theorem dX8_setUntold_18 : decode cX8_setUntold 18 = .ok (.ifCond .lt 5, 3) := by decide +kernel
theorem dX8_setUntold_23 : decode cX8_setUntold 23 = .ok (.aload_n 0, 1) := by decide +kernel
theorem dX8_setUntold_24 : decode cX8_setUntold 24 = .ok (.getfield 40, 3) := by decide +kernel
theorem dX8_setUntold_27 : decode cX8_setUntold 27 = .ok (.iload_n 1, 1) := by decide +kernel
theorem dX8_setUntold_28 : decode cX8_setUntold 28 = .ok (.iload_n 2, 1) := by decide +kernel
theorem dX8_setUntold_29 : decode cX8_setUntold 29 = .ok (.iastore, 1) := by decide +kernel
theorem dX8_setUntold_30 : decode cX8_setUntold 30 = .ok (.iconst 1, 1) := by decide +kernel
theorem dX8_setUntold_31 : decode cX8_setUntold 31 = .ok (.ireturn, 1) := by decide +kernel
set_option maxHeartbeats 4000000 in
set_option maxRecDepth 100000 in
theorem c10_X8_setUntold (l : Launch) (G : va_G) (cI cJ cB cZ : ClassId) (a0 a1 a2 a3 a4 a5 a6 a7 : Nat) (b1 : Int32) (b2 : Int32) (v_ot_7 : Int32) (g_ot_untold : Nat → Int32) (hv_0 : 0 ≤ v_ot_7.toInt) (hv_1 : v_ot_7.toInt ≤ 30) : Con l G (TY cI cJ cB cZ) yX8_setUntold cX8_setUntold 3 (some .boolean) ({ frames := 0, cells := 0, slots := 0, locals := 0 } : Room) [.ref a0, .int b1, .int b2] [(a0, .inr (8, [.ref a1, .ref a2, .ref a3, .ref a4, .ref a5, .ref a6, .ref a7, .int v_ot_7])), (a7, .inl (cI, 30, .inl g_ot_untold))] (QI G (TY cI cJ cB cZ) (fun (r : Int32) (u : (Nat → Int32)) => (0 ≤ r.toInt ∧ r.toInt ≤ 1)) (fun u : (Nat → Int32) => [(a0, .inr (8, [.ref a1, .ref a2, .ref a3, .ref a4, .ref a5, .ref a6, .ref a7, .int v_ot_7])), (a7, .inl (cI, 30, .inl u))])) := by
  refine k_met (by decide) (Nat.le_of_ble_eq_true rfl) ?_
  intro p e s m below meth c A ls hC hr hlk hnm hN hZ hK hA hP hD hS hl
  have hl : lv_has ls 3 [(0, .ref a0), (1, .int b1), (2, .int b2)] := hl
  generalize hQm : MQ below _ _ s _ _ A = Qm
  generalize (List.toArray _ : Array Value) = args at hC hQm ⊢
  obtain ⟨hx, hb, hml, hown, hts⟩ := id hC
  obtain ⟨H, hH⟩ : ∃ q, q = s.heap := ⟨_, rfl⟩
  obtain ⟨locs, hlo⟩ : ∃ q : List Loc, q = [] := ⟨_, rfl⟩
  have hP : va_P G cl [(a0, .inr (8, [.ref a1, .ref a2, .ref a3, .ref a4, .ref a5, .ref a6, .ref a7, .int v_ot_7])), (a7, .inl (cI, 30, .inl g_ot_untold))] H := by rw [hH]; exact hP
  have hS : va_S A s.heap H locs := by rw [hH, hlo]; exact hS
  rw [← hlo]
  rw [← hH]
  refine lv_iload_n hx hb dX8_setUntold_0 rfl (lv_at hl 1 rfl) ?_
  refine lv_if_lt (tgt := 21) hx hb dX8_setUntold_1 (by decide) (fun c1 => ?_) (fun c1 => ?_)
  · have dc1 : b1.toInt < 0 := (fa_lt _ _).mp c1; have lbc1_0 := i_lo b1; have ubc1_0 := i_hi b1
    refine lv_iconst (v := 0) hx hb dX8_setUntold_21 (by decide) ?_
    have l_l2 : (0 : Int32).toInt = 0 := rfl
    rw [← hQm]
    exact k_zret hC hr hlk hK hP hD hS g_ot_untold [0, 1] rfl (by decide +kernel) rfl (show 0 ≤ (0 : Int32).toInt ∧ (0 : Int32).toInt ≤ 1 from by omega) (Nat.le_of_ble_eq_true rfl) (Nat.le_of_ble_eq_true rfl) dX8_setUntold_22
  · have dc1 : 0 ≤ b1.toInt := fa_nlt c1; have lbc1_0 := i_lo b1; have ubc1_0 := i_hi b1
    refine lv_iload_n hx hb dX8_setUntold_4 rfl (lv_at hl 1 rfl) ?_
    refine lv_aload_n hx hb dX8_setUntold_5 rfl (lv_at hl 0 rfl) ?_
    refine k_get hC hK hP iX8 0 7 wf_X8_9 rfl (by decide) rfl rfl dX8_setUntold_6 ?_
    refine lv_icmp_ge (tgt := 21) hx hb dX8_setUntold_9 (by decide) (fun c3 => ?_) (fun c3 => ?_)
    · have dc3 : v_ot_7.toInt ≤ b1.toInt := (fa_le _ _).mp c3; have ubc3_1 := i_hi b1
      refine lv_iconst (v := 0) hx hb dX8_setUntold_21 (by decide) ?_
      have l_l4 : (0 : Int32).toInt = 0 := rfl
      rw [← hQm]
      exact k_zret hC hr hlk hK hP hD hS g_ot_untold [0, 1] rfl (by decide +kernel) rfl (show 0 ≤ (0 : Int32).toInt ∧ (0 : Int32).toInt ≤ 1 from by omega) (Nat.le_of_ble_eq_true rfl) (Nat.le_of_ble_eq_true rfl) dX8_setUntold_22
    · have dc3 : b1.toInt < v_ot_7.toInt := fa_nle c3; have ubc3_1 := i_hi b1
      refine lv_aload_n hx hb dX8_setUntold_12 rfl (lv_at hl 0 rfl) ?_
      refine k_get hC hK hP iX8 0 6 wf_X8_40 rfl (by decide) rfl rfl dX8_setUntold_13 ?_
      refine lv_iload_n hx hb dX8_setUntold_16 rfl (lv_at hl 1 rfl) ?_
      refine t_iald hC hK hP 1 rfl (by omega) (by omega) (TA.all _) dX8_setUntold_17 (fun z5 tz5 => ?_)
      refine lv_if_lt (tgt := 23) hx hb dX8_setUntold_18 (by decide) (fun c6 => ?_) (fun c6 => ?_)
      · have dc6 : z5.toInt < 0 := (fa_lt _ _).mp c6; have lbc6_0 := i_lo z5; have ubc6_0 := i_hi z5
        refine lv_aload_n hx hb dX8_setUntold_23 rfl (lv_at hl 0 rfl) ?_
        refine k_get hC hK hP iX8 0 6 wf_X8_40 rfl (by decide) rfl rfl dX8_setUntold_24 ?_
        refine lv_iload_n hx hb dX8_setUntold_27 rfl (lv_at hl 1 rfl) ?_
        refine lv_iload_n hx hb dX8_setUntold_28 rfl (lv_at hl 2 rfl) ?_
        refine t_iast hC hK hP hD hS 1 rfl (by omega) (by omega) (TA.all _) ⟨i_lo _, i_hi _⟩ dX8_setUntold_29 (fun f7 H locs hT_f7 hP hD hS => ?_)
        have hP : va_P G cl [(a0, .inr (8, [.ref a1, .ref a2, .ref a3, .ref a4, .ref a5, .ref a6, .ref a7, .int v_ot_7])), (a7, .inl (cI, 30, .inl f7))] H := hP
        have hD : va_D A [(a0, .inr (8, [.ref a1, .ref a2, .ref a3, .ref a4, .ref a5, .ref a6, .ref a7, .int v_ot_7])), (a7, .inl (cI, 30, .inl f7))] := hD
        refine lv_iconst (v := 1) hx hb dX8_setUntold_30 (by decide) ?_
        have l_l8 : (1 : Int32).toInt = 1 := rfl
        rw [← hQm]
        exact k_zret hC hr hlk hK hP hD hS f7 [0, 1] rfl (by decide +kernel) rfl (show 0 ≤ (1 : Int32).toInt ∧ (1 : Int32).toInt ≤ 1 from by omega) (Nat.le_of_ble_eq_true rfl) (Nat.le_of_ble_eq_true rfl) dX8_setUntold_31
      · have dc6 : 0 ≤ z5.toInt := fa_nlt c6; have lbc6_0 := i_lo z5; have ubc6_0 := i_hi z5
        refine lv_iconst (v := 0) hx hb dX8_setUntold_21 (by decide) ?_
        have l_l9 : (0 : Int32).toInt = 0 := rfl
        rw [← hQm]
        exact k_zret hC hr hlk hK hP hD hS g_ot_untold [0, 1] rfl (by decide +kernel) rfl (show 0 ≤ (0 : Int32).toInt ∧ (0 : Int32).toInt ≤ 1 from by omega) (Nat.le_of_ble_eq_true rfl) (Nat.le_of_ble_eq_true rfl) dX8_setUntold_22
theorem dX8_isKnown_0 : decode cX8_isKnown 0 = .ok (.iload_n 1, 1) := by decide +kernel
theorem dX8_isKnown_1 : decode cX8_isKnown 1 = .ok (.ifCond .lt 11, 3) := by decide +kernel
theorem dX8_isKnown_12 : decode cX8_isKnown 12 = .ok (.iconst 0, 1) := by decide +kernel
theorem dX8_isKnown_13 : decode cX8_isKnown 13 = .ok (.ireturn, 1) := by decide +kernel
theorem dX8_isKnown_4 : decode cX8_isKnown 4 = .ok (.iload_n 1, 1) := by decide +kernel
theorem dX8_isKnown_5 : decode cX8_isKnown 5 = .ok (.aload_n 0, 1) := by decide +kernel
theorem dX8_isKnown_6 : decode cX8_isKnown 6 = .ok (.getfield 9, 3) := by decide +kernel
theorem dX8_isKnown_9 : decode cX8_isKnown 9 = .ok (.if_icmp .lt 5, 3) := by decide +kernel
theorem dX8_isKnown_14 : decode cX8_isKnown 14 = .ok (.aload_n 0, 1) := by decide +kernel
theorem dX8_isKnown_15 : decode cX8_isKnown 15 = .ok (.getfield 37, 3) := by decide +kernel
theorem dX8_isKnown_18 : decode cX8_isKnown 18 = .ok (.iload_n 1, 1) := by decide +kernel
theorem dX8_isKnown_19 : decode cX8_isKnown 19 = .ok (.iaload, 1) := by decide +kernel
theorem dX8_isKnown_20 : decode cX8_isKnown 20 = .ok (.iload_n 2, 1) := by decide +kernel
theorem dX8_isKnown_21 : decode cX8_isKnown 21 = .ok (.if_icmp .gt 26, 3) := by decide +kernel
theorem dX8_isKnown_47 : decode cX8_isKnown 47 = .ok (.iconst 0, 1) := by decide +kernel
theorem dX8_isKnown_48 : decode cX8_isKnown 48 = .ok (.ireturn, 1) := by decide +kernel
theorem dX8_isKnown_24 : decode cX8_isKnown 24 = .ok (.aload_n 0, 1) := by decide +kernel
theorem dX8_isKnown_25 : decode cX8_isKnown 25 = .ok (.getfield 40, 3) := by decide +kernel
theorem dX8_isKnown_28 : decode cX8_isKnown 28 = .ok (.iload_n 1, 1) := by decide +kernel
theorem dX8_isKnown_29 : decode cX8_isKnown 29 = .ok (.iaload, 1) := by decide +kernel
theorem dX8_isKnown_30 : decode cX8_isKnown 30 = .ok (.ifCond .lt 13, 3) := by decide +kernel
theorem dX8_isKnown_43 : decode cX8_isKnown 43 = .ok (.iconst 1, 1) := by decide +kernel
theorem dX8_isKnown_44 : decode cX8_isKnown 44 = .ok (.goto 4, 3) := by decide +kernel
theorem dX8_isKnown_33 : decode cX8_isKnown 33 = .ok (.aload_n 0, 1) := by decide +kernel
theorem dX8_isKnown_34 : decode cX8_isKnown 34 = .ok (.getfield 40, 3) := by decide +kernel
theorem dX8_isKnown_37 : decode cX8_isKnown 37 = .ok (.iload_n 1, 1) := by decide +kernel
theorem dX8_isKnown_38 : decode cX8_isKnown 38 = .ok (.iaload, 1) := by decide +kernel
theorem dX8_isKnown_39 : decode cX8_isKnown 39 = .ok (.iload_n 2, 1) := by decide +kernel
theorem dX8_isKnown_40 : decode cX8_isKnown 40 = .ok (.if_icmp .le 7, 3) := by decide +kernel
set_option maxHeartbeats 4000000 in
set_option maxRecDepth 100000 in
theorem c11_X8_isKnown (l : Launch) (G : va_G) (cI cJ cB cZ : ClassId) (a0 a1 a2 a3 a4 a5 a6 a7 : Nat) (b1 : Int32) (b2 : Int32) (v_ot_7 : Int32) (g_ot_told : Nat → Int32) (g_ot_untold : Nat → Int32) (hv_0 : 0 ≤ v_ot_7.toInt) (hv_1 : v_ot_7.toInt ≤ 30) : Con l G (TY cI cJ cB cZ) yX8_isKnown cX8_isKnown 3 (some .boolean) ({ frames := 0, cells := 0, slots := 0, locals := 0 } : Room) [.ref a0, .int b1, .int b2] [(a0, .inr (8, [.ref a1, .ref a2, .ref a3, .ref a4, .ref a5, .ref a6, .ref a7, .int v_ot_7])), (a6, .inl (cI, 30, .inl g_ot_told)), (a7, .inl (cI, 30, .inl g_ot_untold))] (QI G (TY cI cJ cB cZ) (fun (r : Int32) (u : Unit) => (0 ≤ r.toInt ∧ r.toInt ≤ 1)) (fun u : Unit => [(a0, .inr (8, [.ref a1, .ref a2, .ref a3, .ref a4, .ref a5, .ref a6, .ref a7, .int v_ot_7])), (a6, .inl (cI, 30, .inl g_ot_told)), (a7, .inl (cI, 30, .inl g_ot_untold))])) := by
  refine k_met (by decide) (Nat.le_of_ble_eq_true rfl) ?_
  intro p e s m below meth c A ls hC hr hlk hnm hN hZ hK hA hP hD hS hl
  have hl : lv_has ls 3 [(0, .ref a0), (1, .int b1), (2, .int b2)] := hl
  generalize hQm : MQ below _ _ s _ _ A = Qm
  generalize (List.toArray _ : Array Value) = args at hC hQm ⊢
  obtain ⟨hx, hb, hml, hown, hts⟩ := id hC
  obtain ⟨H, hH⟩ : ∃ q, q = s.heap := ⟨_, rfl⟩
  obtain ⟨locs, hlo⟩ : ∃ q : List Loc, q = [] := ⟨_, rfl⟩
  have hP : va_P G cl [(a0, .inr (8, [.ref a1, .ref a2, .ref a3, .ref a4, .ref a5, .ref a6, .ref a7, .int v_ot_7])), (a6, .inl (cI, 30, .inl g_ot_told)), (a7, .inl (cI, 30, .inl g_ot_untold))] H := by rw [hH]; exact hP
  have hS : va_S A s.heap H locs := by rw [hH, hlo]; exact hS
  rw [← hlo]
  rw [← hH]
  refine lv_iload_n hx hb dX8_isKnown_0 rfl (lv_at hl 1 rfl) ?_
  refine lv_if_lt (tgt := 12) hx hb dX8_isKnown_1 (by decide) (fun c1 => ?_) (fun c1 => ?_)
  · have dc1 : b1.toInt < 0 := (fa_lt _ _).mp c1; have lbc1_0 := i_lo b1; have ubc1_0 := i_hi b1
    refine lv_iconst (v := 0) hx hb dX8_isKnown_12 (by decide) ?_
    have l_l2 : (0 : Int32).toInt = 0 := rfl
    rw [← hQm]
    exact k_zret hC hr hlk hK hP hD hS () [0, 1, 2] rfl (by decide +kernel) rfl (show 0 ≤ (0 : Int32).toInt ∧ (0 : Int32).toInt ≤ 1 from by omega) (Nat.le_of_ble_eq_true rfl) (Nat.le_of_ble_eq_true rfl) dX8_isKnown_13
  · have dc1 : 0 ≤ b1.toInt := fa_nlt c1; have lbc1_0 := i_lo b1; have ubc1_0 := i_hi b1
    refine lv_iload_n hx hb dX8_isKnown_4 rfl (lv_at hl 1 rfl) ?_
    refine lv_aload_n hx hb dX8_isKnown_5 rfl (lv_at hl 0 rfl) ?_
    refine k_get hC hK hP iX8 0 7 wf_X8_9 rfl (by decide) rfl rfl dX8_isKnown_6 ?_
    refine lv_icmp_lt (tgt := 14) hx hb dX8_isKnown_9 (by decide) (fun c3 => ?_) (fun c3 => ?_)
    · have dc3 : b1.toInt < v_ot_7.toInt := (fa_lt _ _).mp c3; have ubc3_0 := i_hi b1
      refine lv_aload_n hx hb dX8_isKnown_14 rfl (lv_at hl 0 rfl) ?_
      refine k_get hC hK hP iX8 0 5 wf_X8_37 rfl (by decide) rfl rfl dX8_isKnown_15 ?_
      refine lv_iload_n hx hb dX8_isKnown_18 rfl (lv_at hl 1 rfl) ?_
      refine t_iald hC hK hP 1 rfl (by omega) (by omega) (TA.all _) dX8_isKnown_19 (fun z4 tz4 => ?_)
      refine lv_iload_n hx hb dX8_isKnown_20 rfl (lv_at hl 2 rfl) ?_
      refine lv_icmp_gt (tgt := 47) hx hb dX8_isKnown_21 (by decide) (fun c5 => ?_) (fun c5 => ?_)
      · have dc5 : b2.toInt < z4.toInt := (fa_lt _ _).mp c5; have lbc5_0 := i_lo b2; have ubc5_0 := i_hi b2; have lbc5_1 := i_lo z4; have ubc5_1 := i_hi z4
        refine lv_iconst (v := 0) hx hb dX8_isKnown_47 (by decide) ?_
        have l_l6 : (0 : Int32).toInt = 0 := rfl
        rw [← hQm]
        exact k_zret hC hr hlk hK hP hD hS () [0, 1, 2] rfl (by decide +kernel) rfl (show 0 ≤ (0 : Int32).toInt ∧ (0 : Int32).toInt ≤ 1 from by omega) (Nat.le_of_ble_eq_true rfl) (Nat.le_of_ble_eq_true rfl) dX8_isKnown_48
      · have dc5 : z4.toInt ≤ b2.toInt := fa_nlt c5; have lbc5_0 := i_lo b2; have ubc5_0 := i_hi b2; have lbc5_1 := i_lo z4; have ubc5_1 := i_hi z4
        refine lv_aload_n hx hb dX8_isKnown_24 rfl (lv_at hl 0 rfl) ?_
        refine k_get hC hK hP iX8 0 6 wf_X8_40 rfl (by decide) rfl rfl dX8_isKnown_25 ?_
        refine lv_iload_n hx hb dX8_isKnown_28 rfl (lv_at hl 1 rfl) ?_
        refine t_iald hC hK hP 2 rfl (by omega) (by omega) (TA.all _) dX8_isKnown_29 (fun z7 tz7 => ?_)
        refine lv_if_lt (tgt := 43) hx hb dX8_isKnown_30 (by decide) (fun c8 => ?_) (fun c8 => ?_)
        · have dc8 : z7.toInt < 0 := (fa_lt _ _).mp c8; have lbc8_0 := i_lo z7; have ubc8_0 := i_hi z7
          refine lv_iconst (v := 1) hx hb dX8_isKnown_43 (by decide) ?_
          refine lv_goto (tgt := 48) hx hb dX8_isKnown_44 (by decide) ?_
          have l_l9 : (1 : Int32).toInt = 1 := rfl
          rw [← hQm]
          exact k_zret hC hr hlk hK hP hD hS () [0, 1, 2] rfl (by decide +kernel) rfl (show 0 ≤ (1 : Int32).toInt ∧ (1 : Int32).toInt ≤ 1 from by omega) (Nat.le_of_ble_eq_true rfl) (Nat.le_of_ble_eq_true rfl) dX8_isKnown_48
        · have dc8 : 0 ≤ z7.toInt := fa_nlt c8; have lbc8_0 := i_lo z7; have ubc8_0 := i_hi z7
          refine lv_aload_n hx hb dX8_isKnown_33 rfl (lv_at hl 0 rfl) ?_
          refine k_get hC hK hP iX8 0 6 wf_X8_40 rfl (by decide) rfl rfl dX8_isKnown_34 ?_
          refine lv_iload_n hx hb dX8_isKnown_37 rfl (lv_at hl 1 rfl) ?_
          refine t_iald hC hK hP 2 rfl (by omega) (by omega) (TA.all _) dX8_isKnown_38 (fun z10 tz10 => ?_)
          refine lv_iload_n hx hb dX8_isKnown_39 rfl (lv_at hl 2 rfl) ?_
          refine lv_icmp_le (tgt := 47) hx hb dX8_isKnown_40 (by decide) (fun c11 => ?_) (fun c11 => ?_)
          · have dc11 : z10.toInt ≤ b2.toInt := (fa_le _ _).mp c11; have lbc11_0 := i_lo z10; have ubc11_0 := i_hi z10; have lbc11_1 := i_lo b2; have ubc11_1 := i_hi b2
            refine lv_iconst (v := 0) hx hb dX8_isKnown_47 (by decide) ?_
            have l_l12 : (0 : Int32).toInt = 0 := rfl
            rw [← hQm]
            exact k_zret hC hr hlk hK hP hD hS () [0, 1, 2] rfl (by decide +kernel) rfl (show 0 ≤ (0 : Int32).toInt ∧ (0 : Int32).toInt ≤ 1 from by omega) (Nat.le_of_ble_eq_true rfl) (Nat.le_of_ble_eq_true rfl) dX8_isKnown_48
          · have dc11 : b2.toInt < z10.toInt := fa_nle c11; have lbc11_0 := i_lo z10; have ubc11_0 := i_hi z10; have lbc11_1 := i_lo b2; have ubc11_1 := i_hi b2
            refine lv_iconst (v := 1) hx hb dX8_isKnown_43 (by decide) ?_
            refine lv_goto (tgt := 48) hx hb dX8_isKnown_44 (by decide) ?_
            have l_l13 : (1 : Int32).toInt = 1 := rfl
            rw [← hQm]
            exact k_zret hC hr hlk hK hP hD hS () [0, 1, 2] rfl (by decide +kernel) rfl (show 0 ≤ (1 : Int32).toInt ∧ (1 : Int32).toInt ≤ 1 from by omega) (Nat.le_of_ble_eq_true rfl) (Nat.le_of_ble_eq_true rfl) dX8_isKnown_48
    · have dc3 : v_ot_7.toInt ≤ b1.toInt := fa_nlt c3; have ubc3_0 := i_hi b1
      refine lv_iconst (v := 0) hx hb dX8_isKnown_12 (by decide) ?_
      have l_l14 : (0 : Int32).toInt = 0 := rfl
      rw [← hQm]
      exact k_zret hC hr hlk hK hP hD hS () [0, 1, 2] rfl (by decide +kernel) rfl (show 0 ≤ (0 : Int32).toInt ∧ (0 : Int32).toInt ≤ 1 from by omega) (Nat.le_of_ble_eq_true rfl) (Nat.le_of_ble_eq_true rfl) dX8_isKnown_13
theorem dX8_topStone_0 : decode cX8_topStone 0 = .ok (.iload_n 1, 1) := by decide +kernel
theorem dX8_topStone_1 : decode cX8_topStone 1 = .ok (.ifCond .lt 11, 3) := by decide +kernel
theorem dX8_topStone_12 : decode cX8_topStone 12 = .ok (.iconst (-1), 1) := by decide +kernel
theorem dX8_topStone_13 : decode cX8_topStone 13 = .ok (.ireturn, 1) := by decide +kernel
theorem dX8_topStone_4 : decode cX8_topStone 4 = .ok (.iload_n 1, 1) := by decide +kernel
theorem dX8_topStone_5 : decode cX8_topStone 5 = .ok (.aload_n 0, 1) := by decide +kernel
theorem dX8_topStone_6 : decode cX8_topStone 6 = .ok (.getfield 9, 3) := by decide +kernel
theorem dX8_topStone_9 : decode cX8_topStone 9 = .ok (.if_icmp .lt 5, 3) := by decide +kernel
theorem dX8_topStone_14 : decode cX8_topStone 14 = .ok (.aload_n 0, 1) := by decide +kernel
theorem dX8_topStone_15 : decode cX8_topStone 15 = .ok (.getfield 21, 3) := by decide +kernel
theorem dX8_topStone_18 : decode cX8_topStone 18 = .ok (.iload_n 1, 1) := by decide +kernel
theorem dX8_topStone_19 : decode cX8_topStone 19 = .ok (.iaload, 1) := by decide +kernel
theorem dX8_topStone_20 : decode cX8_topStone 20 = .ok (.aload_n 0, 1) := by decide +kernel
theorem dX8_topStone_21 : decode cX8_topStone 21 = .ok (.getfield 25, 3) := by decide +kernel
theorem dX8_topStone_24 : decode cX8_topStone 24 = .ok (.iload_n 1, 1) := by decide +kernel
theorem dX8_topStone_25 : decode cX8_topStone 25 = .ok (.iaload, 1) := by decide +kernel
theorem dX8_topStone_26 : decode cX8_topStone 26 = .ok (.ior, 1) := by decide +kernel
theorem dX8_topStone_27 : decode cX8_topStone 27 = .ok (.istore_n 2, 1) := by decide +kernel
theorem dX8_topStone_28 : decode cX8_topStone 28 = .ok (.iconst 5, 1) := by decide +kernel
theorem dX8_topStone_29 : decode cX8_topStone 29 = .ok (.istore_n 3, 1) := by decide +kernel
theorem dX8_topStone_30 : decode cX8_topStone 30 = .ok (.iload_n 3, 1) := by decide +kernel
theorem dX8_topStone_31 : decode cX8_topStone 31 = .ok (.ifCond .lt 19, 3) := by decide +kernel
theorem dX8_topStone_50 : decode cX8_topStone 50 = .ok (.iconst (-1), 1) := by decide +kernel
theorem dX8_topStone_51 : decode cX8_topStone 51 = .ok (.ireturn, 1) := by decide +kernel
theorem dX8_topStone_34 : decode cX8_topStone 34 = .ok (.iload_n 2, 1) := by decide +kernel
theorem dX8_topStone_35 : decode cX8_topStone 35 = .ok (.iload_n 3, 1) := by decide +kernel
theorem dX8_topStone_36 : decode cX8_topStone 36 = .ok (.ishr, 1) := by decide +kernel
theorem dX8_topStone_37 : decode cX8_topStone 37 = .ok (.iconst 1, 1) := by decide +kernel
theorem dX8_topStone_38 : decode cX8_topStone 38 = .ok (.iand, 1) := by decide +kernel
theorem dX8_topStone_39 : decode cX8_topStone 39 = .ok (.ifCond .eq 5, 3) := by decide +kernel
theorem dX8_topStone_44 : decode cX8_topStone 44 = .ok (.iinc 3 (-1), 3) := by decide +kernel
theorem dX8_topStone_47 : decode cX8_topStone 47 = .ok (.goto (-17), 3) := by decide +kernel
theorem dX8_topStone_42 : decode cX8_topStone 42 = .ok (.iload_n 3, 1) := by decide +kernel
theorem dX8_topStone_43 : decode cX8_topStone 43 = .ok (.ireturn, 1) := by decide +kernel
set_option maxHeartbeats 4000000 in
set_option maxRecDepth 100000 in
theorem c12_X8_topStone (l : Launch) (G : va_G) (cI cJ cB cZ : ClassId) (a0 a1 a2 a3 a4 a5 a6 a7 : Nat) (b1 : Int32) (v_ot_7 : Int32) (g_ot_left : Nat → Int32) (g_ot_right : Nat → Int32) (hv_0 : 0 ≤ v_ot_7.toInt) (hv_1 : v_ot_7.toInt ≤ 30) : Con l G (TY cI cJ cB cZ) yX8_topStone cX8_topStone 4 (some .int) ({ frames := 0, cells := 0, slots := 0, locals := 0 } : Room) [.ref a0, .int b1] [(a0, .inr (8, [.ref a1, .ref a2, .ref a3, .ref a4, .ref a5, .ref a6, .ref a7, .int v_ot_7])), (a1, .inl (cI, 30, .inl g_ot_left)), (a2, .inl (cI, 30, .inl g_ot_right))] (QI G (TY cI cJ cB cZ) (fun (r : Int32) (u : Unit) => ((-1) ≤ r.toInt ∧ r.toInt ≤ 5)) (fun u : Unit => [(a0, .inr (8, [.ref a1, .ref a2, .ref a3, .ref a4, .ref a5, .ref a6, .ref a7, .int v_ot_7])), (a1, .inl (cI, 30, .inl g_ot_left)), (a2, .inl (cI, 30, .inl g_ot_right))])) := by
  refine k_met (by decide) (Nat.le_of_ble_eq_true rfl) ?_
  intro p e s m below meth c A ls hC hr hlk hnm hN hZ hK hA hP hD hS hl
  have hl : lv_has ls 4 [(0, .ref a0), (1, .int b1)] := hl
  generalize hQm : MQ below _ _ s _ _ A = Qm
  generalize (List.toArray _ : Array Value) = args at hC hQm ⊢
  obtain ⟨hx, hb, hml, hown, hts⟩ := id hC
  obtain ⟨H, hH⟩ : ∃ q, q = s.heap := ⟨_, rfl⟩
  obtain ⟨locs, hlo⟩ : ∃ q : List Loc, q = [] := ⟨_, rfl⟩
  have hP : va_P G cl [(a0, .inr (8, [.ref a1, .ref a2, .ref a3, .ref a4, .ref a5, .ref a6, .ref a7, .int v_ot_7])), (a1, .inl (cI, 30, .inl g_ot_left)), (a2, .inl (cI, 30, .inl g_ot_right))] H := by rw [hH]; exact hP
  have hS : va_S A s.heap H locs := by rw [hH, hlo]; exact hS
  rw [← hlo]
  rw [← hH]
  refine lv_iload_n hx hb dX8_topStone_0 rfl (lv_at hl 1 rfl) ?_
  refine lv_if_lt (tgt := 12) hx hb dX8_topStone_1 (by decide) (fun c1 => ?_) (fun c1 => ?_)
  · have dc1 : b1.toInt < 0 := (fa_lt _ _).mp c1; have lbc1_0 := i_lo b1; have ubc1_0 := i_hi b1
    refine lv_iconst (v := (-1)) hx hb dX8_topStone_12 (by decide) ?_
    have l_l2 : ((-1) : Int32).toInt = (-1) := rfl
    rw [← hQm]
    exact k_iret hC hr hlk hK hP hD hS () [0, 1, 2] rfl (by decide +kernel) (show (-1) ≤ ((-1) : Int32).toInt ∧ ((-1) : Int32).toInt ≤ 5 from by omega) (Nat.le_of_ble_eq_true rfl) (Nat.le_of_ble_eq_true rfl) dX8_topStone_13
  · have dc1 : 0 ≤ b1.toInt := fa_nlt c1; have lbc1_0 := i_lo b1; have ubc1_0 := i_hi b1
    refine lv_iload_n hx hb dX8_topStone_4 rfl (lv_at hl 1 rfl) ?_
    refine lv_aload_n hx hb dX8_topStone_5 rfl (lv_at hl 0 rfl) ?_
    refine k_get hC hK hP iX8 0 7 wf_X8_9 rfl (by decide) rfl rfl dX8_topStone_6 ?_
    refine lv_icmp_lt (tgt := 14) hx hb dX8_topStone_9 (by decide) (fun c3 => ?_) (fun c3 => ?_)
    · have dc3 : b1.toInt < v_ot_7.toInt := (fa_lt _ _).mp c3; have ubc3_0 := i_hi b1
      refine lv_aload_n hx hb dX8_topStone_14 rfl (lv_at hl 0 rfl) ?_
      refine k_get hC hK hP iX8 0 0 wf_X8_21 rfl (by decide) rfl rfl dX8_topStone_15 ?_
      refine lv_iload_n hx hb dX8_topStone_18 rfl (lv_at hl 1 rfl) ?_
      refine t_iald hC hK hP 1 rfl (by omega) (by omega) (TA.all _) dX8_topStone_19 (fun z4 tz4 => ?_)
      refine lv_aload_n hx hb dX8_topStone_20 rfl (lv_at hl 0 rfl) ?_
      refine k_get hC hK hP iX8 0 1 wf_X8_25 rfl (by decide) rfl rfl dX8_topStone_21 ?_
      refine lv_iload_n hx hb dX8_topStone_24 rfl (lv_at hl 1 rfl) ?_
      refine t_iald hC hK hP 2 rfl (by omega) (by omega) (TA.all _) dX8_topStone_25 (fun z5 tz5 => ?_)
      refine lv_ior hx hb dX8_topStone_26 ?_
      refine lv_topi (fun z6 _ => ?_)
      refine lv_istore_n (lv' := [(2, .int z6), (0, .ref a0), (1, .int b1)]) hx hb dX8_topStone_27 rfl hl (by decide) rfl (fun ls hl => ?_)
      refine lv_iconst (v := 5) hx hb dX8_topStone_28 (by decide) ?_
      refine lv_istore_n (lv' := [(3, .int 5), (2, .int z6), (0, .ref a0), (1, .int b1)]) hx hb dX8_topStone_29 rfl hl (by decide) rfl (fun ls hl => ?_)
      have L_30 : ∀ (n : Nat) (x7 : Int32) (H : Heap) (locs : List Loc) (ls : Array Slot), ((-1) ≤ x7.toInt ∧ x7.toInt ≤ 5) → x7.toInt - (-1) < (n : Int) → va_P G cl [(a0, .inr (8, [.ref a1, .ref a2, .ref a3, .ref a4, .ref a5, .ref a6, .ref a7, .int v_ot_7])), (a1, .inl (cI, 30, .inl g_ot_left)), (a2, .inl (cI, 30, .inl g_ot_right))] H → va_D A [(a0, .inr (8, [.ref a1, .ref a2, .ref a3, .ref a4, .ref a5, .ref a6, .ref a7, .int v_ot_7])), (a1, .inl (cI, 30, .inl g_ot_left)), (a2, .inl (cI, 30, .inl g_ot_right))] → va_S A s.heap H locs → lv_has ls 4 [(0, .ref a0), (1, .int b1), (2, .int z6), (3, .int x7)] → W p l e ({ frames := 0, cells := 0, slots := 0, locals := 0 } : Room) s m args below meth c H locs 0 0 Qm (F0 m 30 ls []) := by
        intro n
        induction n with
        | zero => intro x7 H locs ls hv hm; omega
        | succ n ih =>
          intro x7 H locs ls hv hm hP hD hS hl
          refine lv_iload_n hx hb dX8_topStone_30 rfl (lv_at hl 3 rfl) ?_
          refine lv_if_lt (tgt := 50) hx hb dX8_topStone_31 (by decide) (fun c8 => ?_) (fun c8 => ?_)
          · have dc8 : x7.toInt < 0 := (fa_lt _ _).mp c8
            refine lv_iconst (v := (-1)) hx hb dX8_topStone_50 (by decide) ?_
            have l_l9 : ((-1) : Int32).toInt = (-1) := rfl
            rw [← hQm]
            exact k_iret hC hr hlk hK hP hD hS () [0, 1, 2] rfl (by decide +kernel) (show (-1) ≤ ((-1) : Int32).toInt ∧ ((-1) : Int32).toInt ≤ 5 from by omega) (Nat.le_of_ble_eq_true rfl) (Nat.le_of_ble_eq_true rfl) dX8_topStone_51
          · have dc8 : 0 ≤ x7.toInt := fa_nlt c8
            refine lv_iload_n hx hb dX8_topStone_34 rfl (lv_at hl 2 rfl) ?_
            refine lv_iload_n hx hb dX8_topStone_35 rfl (lv_at hl 3 rfl) ?_
            refine lv_ishr hx hb dX8_topStone_36 ?_
            refine lv_topi (fun z10 _ => ?_)
            refine lv_iconst (v := 1) hx hb dX8_topStone_37 (by decide) ?_
            refine lv_iand hx hb dX8_topStone_38 ?_
            refine t_i (fun q => 0 ≤ q.toInt ∧ q.toInt ≤ 1) (by have h_ := and_b (x := z10) (y := 1) (by decide); exact h_) (fun z11 tz11 => ?_)
            refine lv_if_eq (tgt := 44) hx hb dX8_topStone_39 (by decide) (fun c12 => ?_) (fun c12 => ?_)
            · have dc12 : z11.toInt = 0 := (fa_eq _ _).mp c12
              obtain ⟨z13, ez13⟩ : ∃ q : Int32, q = x7 + Int32.ofInt (-1) := ⟨_, rfl⟩
              have tz13 : z13.toInt = x7.toInt + (-1) := by rw [ez13]; exact add_i (y := (-1)) (by have p_ := i_lo x7; show _ ≤ _ + ((-1) : Int); omega) (by have q_ := i_hi x7; show _ + ((-1) : Int) ≤ _; omega)
              refine lv_iinc (v := z13) (lv' := [(3, .int z13), (0, .ref a0), (1, .int b1), (2, .int z6)]) hx hb dX8_topStone_44 hl (k := 3) rfl ez13.symm (by decide) rfl (fun ls hl => ?_)
              refine lv_goto (tgt := 30) hx hb dX8_topStone_47 (by decide) ?_
              exact ih  z13 H locs ls (by omega) (by omega) (hP.subm [0, 1, 2] rfl) (hD.sub [0, 1, 2] (by decide +kernel) rfl) hS (lv_sub hl [1, 2, 3, 0] rfl)
            · have dc12 : z11.toInt ≠ 0 := fa_ne c12
              refine lv_iload_n hx hb dX8_topStone_42 rfl (lv_at hl 3 rfl) ?_
              rw [← hQm]
              exact k_iret hC hr hlk hK hP hD hS () [0, 1, 2] rfl (by decide +kernel) (show (-1) ≤ x7.toInt ∧ x7.toInt ≤ 5 from by omega) (Nat.le_of_ble_eq_true rfl) (Nat.le_of_ble_eq_true rfl) dX8_topStone_43
      have l_l14 : (5 : Int32).toInt = 5 := rfl
      exact L_30 7 5 H locs ls (by omega) (by omega) (hP.subm [0, 1, 2] rfl) (hD.sub [0, 1, 2] (by decide +kernel) rfl) hS (lv_sub hl [2, 3, 1, 0] rfl)
    · have dc3 : v_ot_7.toInt ≤ b1.toInt := fa_nlt c3; have ubc3_0 := i_hi b1
      refine lv_iconst (v := (-1)) hx hb dX8_topStone_12 (by decide) ?_
      have l_l15 : ((-1) : Int32).toInt = (-1) := rfl
      rw [← hQm]
      exact k_iret hC hr hlk hK hP hD hS () [0, 1, 2] rfl (by decide +kernel) (show (-1) ≤ ((-1) : Int32).toInt ∧ ((-1) : Int32).toInt ≤ 5 from by omega) (Nat.le_of_ble_eq_true rfl) (Nat.le_of_ble_eq_true rfl) dX8_topStone_13
theorem dX3_put_0 : decode cX3_put 0 = .ok (.aload_n 0, 1) := by decide +kernel
theorem dX3_put_1 : decode cX3_put 1 = .ok (.getfield 24, 3) := by decide +kernel
set_option maxRecDepth 100000 in
theorem wf_X3_24 : Cond.fieldLink RX3 24 "StoneTrust$Sales" "size" "I" ∈ gw := gm (List.mem_of_getElem? (i := 201) (by decide +kernel)) rfl
theorem dX3_put_4 : decode cX3_put 4 = .ok (.bipush 10, 2) := by decide +kernel
theorem dX3_put_6 : decode cX3_put 6 = .ok (.if_icmp .lt 4, 3) := by decide +kernel
theorem dX3_put_10 : decode cX3_put 10 = .ok (.aload_n 0, 1) := by decide +kernel
theorem dX3_put_11 : decode cX3_put 11 = .ok (.getfield 9, 3) := by decide +kernel
set_option maxRecDepth 100000 in
theorem wf_X3_9 : Cond.fieldLink RX3 9 "StoneTrust$Sales" "stones" "[I" ∈ gw := gm (List.mem_of_getElem? (i := 193) (by decide +kernel)) rfl
theorem dX3_put_14 : decode cX3_put 14 = .ok (.aload_n 0, 1) := by decide +kernel
theorem dX3_put_15 : decode cX3_put 15 = .ok (.getfield 24, 3) := by decide +kernel
theorem dX3_put_18 : decode cX3_put 18 = .ok (.iload_n 1, 1) := by decide +kernel
theorem dX3_put_19 : decode cX3_put 19 = .ok (.iastore, 1) := by decide +kernel
theorem dX3_put_20 : decode cX3_put 20 = .ok (.aload_n 0, 1) := by decide +kernel
theorem dX3_put_21 : decode cX3_put 21 = .ok (.getfield 15, 3) := by decide +kernel
set_option maxRecDepth 100000 in
theorem wf_X3_15 : Cond.fieldLink RX3 15 "StoneTrust$Sales" "year" "[I" ∈ gw := gm (List.mem_of_getElem? (i := 195) (by decide +kernel)) rfl
theorem dX3_put_24 : decode cX3_put 24 = .ok (.aload_n 0, 1) := by decide +kernel
theorem dX3_put_25 : decode cX3_put 25 = .ok (.getfield 24, 3) := by decide +kernel
theorem dX3_put_28 : decode cX3_put 28 = .ok (.iload_n 2, 1) := by decide +kernel
theorem dX3_put_29 : decode cX3_put 29 = .ok (.iastore, 1) := by decide +kernel
theorem dX3_put_30 : decode cX3_put 30 = .ok (.aload_n 0, 1) := by decide +kernel
theorem dX3_put_31 : decode cX3_put 31 = .ok (.getfield 18, 3) := by decide +kernel
set_option maxRecDepth 100000 in
theorem wf_X3_18 : Cond.fieldLink RX3 18 "StoneTrust$Sales" "trader" "[I" ∈ gw := gm (List.mem_of_getElem? (i := 197) (by decide +kernel)) rfl
theorem dX3_put_34 : decode cX3_put 34 = .ok (.aload_n 0, 1) := by decide +kernel
theorem dX3_put_35 : decode cX3_put 35 = .ok (.getfield 24, 3) := by decide +kernel
theorem dX3_put_38 : decode cX3_put 38 = .ok (.iload_n 3, 1) := by decide +kernel
theorem dX3_put_39 : decode cX3_put 39 = .ok (.iastore, 1) := by decide +kernel
theorem dX3_put_40 : decode cX3_put 40 = .ok (.aload_n 0, 1) := by decide +kernel
theorem dX3_put_41 : decode cX3_put 41 = .ok (.getfield 21, 3) := by decide +kernel
set_option maxRecDepth 100000 in
theorem wf_X3_21 : Cond.fieldLink RX3 21 "StoneTrust$Sales" "price" "[I" ∈ gw := gm (List.mem_of_getElem? (i := 199) (by decide +kernel)) rfl
theorem dX3_put_44 : decode cX3_put 44 = .ok (.aload_n 0, 1) := by decide +kernel
theorem dX3_put_45 : decode cX3_put 45 = .ok (.getfield 24, 3) := by decide +kernel
theorem dX3_put_48 : decode cX3_put 48 = .ok (.iload 4, 2) := by decide +kernel
theorem dX3_put_50 : decode cX3_put 50 = .ok (.iastore, 1) := by decide +kernel
theorem dX3_put_51 : decode cX3_put 51 = .ok (.aload_n 0, 1) := by decide +kernel
theorem dX3_put_52 : decode cX3_put 52 = .ok (.dup, 1) := by decide +kernel
theorem dX3_put_53 : decode cX3_put 53 = .ok (.getfield 24, 3) := by decide +kernel
theorem dX3_put_56 : decode cX3_put 56 = .ok (.iconst 1, 1) := by decide +kernel
theorem dX3_put_57 : decode cX3_put 57 = .ok (.iadd, 1) := by decide +kernel
theorem dX3_put_58 : decode cX3_put 58 = .ok (.putfield 24, 3) := by decide +kernel
theorem dX3_put_61 : decode cX3_put 61 = .ok (.return_, 1) := by decide +kernel
theorem dX3_put_9 : decode cX3_put 9 = .ok (.return_, 1) := by decide +kernel
set_option maxHeartbeats 4000000 in
set_option maxRecDepth 100000 in
theorem c13_X3_put (l : Launch) (G : va_G) (cI cJ cB cZ : ClassId) (a0 a1 a2 a3 a4 : Nat) (b1 : Int32) (b2 : Int32) (b3 : Int32) (b4 : Int32) (v_Vs_4 : Int32) (g_Vs_stones : Nat → Int32) (g_Vs_year : Nat → Int32) (g_Vs_trader : Nat → Int32) (g_Vs_price : Nat → Int32) (hv_0 : 0 ≤ v_Vs_4.toInt) (hv_1 : v_Vs_4.toInt ≤ 10) : Con l G (TY cI cJ cB cZ) yX3_put cX3_put 5 none ({ frames := 0, cells := 0, slots := 0, locals := 0 } : Room) [.ref a0, .int b1, .int b2, .int b3, .int b4] [(a0, .inr (3, [.ref a1, .ref a2, .ref a3, .ref a4, .int v_Vs_4])), (a1, .inl (cI, 10, .inl g_Vs_stones)), (a2, .inl (cI, 10, .inl g_Vs_year)), (a3, .inl (cI, 10, .inl g_Vs_trader)), (a4, .inl (cI, 10, .inl g_Vs_price))] (QV G (TY cI cJ cB cZ) (fun u : Int32 × (Nat → Int32) × (Nat → Int32) × (Nat → Int32) × (Nat → Int32) => (1 ≤ u.1.toInt ∧ u.1.toInt ≤ 10)) (fun u : Int32 × (Nat → Int32) × (Nat → Int32) × (Nat → Int32) × (Nat → Int32) => [(a0, .inr (3, [.ref a1, .ref a2, .ref a3, .ref a4, .int u.1])), (a1, .inl (cI, 10, .inl u.2.1)), (a2, .inl (cI, 10, .inl u.2.2.1)), (a3, .inl (cI, 10, .inl u.2.2.2.1)), (a4, .inl (cI, 10, .inl u.2.2.2.2))])) := by
  refine k_met (by decide) (Nat.le_of_ble_eq_true rfl) ?_
  intro p e s m below meth c A ls hC hr hlk hnm hN hZ hK hA hP hD hS hl
  have hl : lv_has ls 5 [(0, .ref a0), (1, .int b1), (2, .int b2), (3, .int b3), (4, .int b4)] := hl
  generalize hQm : MQ below _ _ s _ _ A = Qm
  generalize (List.toArray _ : Array Value) = args at hC hQm ⊢
  obtain ⟨hx, hb, hml, hown, hts⟩ := id hC
  obtain ⟨H, hH⟩ : ∃ q, q = s.heap := ⟨_, rfl⟩
  obtain ⟨locs, hlo⟩ : ∃ q : List Loc, q = [] := ⟨_, rfl⟩
  have hP : va_P G cl [(a0, .inr (3, [.ref a1, .ref a2, .ref a3, .ref a4, .int v_Vs_4])), (a1, .inl (cI, 10, .inl g_Vs_stones)), (a2, .inl (cI, 10, .inl g_Vs_year)), (a3, .inl (cI, 10, .inl g_Vs_trader)), (a4, .inl (cI, 10, .inl g_Vs_price))] H := by rw [hH]; exact hP
  have hS : va_S A s.heap H locs := by rw [hH, hlo]; exact hS
  rw [← hlo]
  rw [← hH]
  refine lv_aload_n hx hb dX3_put_0 rfl (lv_at hl 0 rfl) ?_
  refine k_get hC hK hP iX3 0 4 wf_X3_24 rfl (by decide) rfl rfl dX3_put_1 ?_
  refine lv_bipush (v := 10) hx hb dX3_put_4 (by decide) ?_
  refine lv_icmp_lt (tgt := 10) hx hb dX3_put_6 (by decide) (fun c1 => ?_) (fun c1 => ?_)
  · have dc1 : v_Vs_4.toInt < 10 := (fa_lt _ _).mp c1
    refine lv_aload_n hx hb dX3_put_10 rfl (lv_at hl 0 rfl) ?_
    refine k_get hC hK hP iX3 0 0 wf_X3_9 rfl (by decide) rfl rfl dX3_put_11 ?_
    refine lv_aload_n hx hb dX3_put_14 rfl (lv_at hl 0 rfl) ?_
    refine k_get hC hK hP iX3 0 4 wf_X3_24 rfl (by decide) rfl rfl dX3_put_15 ?_
    refine lv_iload_n hx hb dX3_put_18 rfl (lv_at hl 1 rfl) ?_
    refine t_iast hC hK hP hD hS 1 rfl (by omega) (by omega) (TA.all _) ⟨i_lo _, i_hi _⟩ dX3_put_19 (fun f2 H locs hT_f2 hP hD hS => ?_)
    have hP : va_P G cl [(a0, .inr (3, [.ref a1, .ref a2, .ref a3, .ref a4, .int v_Vs_4])), (a1, .inl (cI, 10, .inl f2)), (a2, .inl (cI, 10, .inl g_Vs_year)), (a3, .inl (cI, 10, .inl g_Vs_trader)), (a4, .inl (cI, 10, .inl g_Vs_price))] H := hP
    have hD : va_D A [(a0, .inr (3, [.ref a1, .ref a2, .ref a3, .ref a4, .int v_Vs_4])), (a1, .inl (cI, 10, .inl f2)), (a2, .inl (cI, 10, .inl g_Vs_year)), (a3, .inl (cI, 10, .inl g_Vs_trader)), (a4, .inl (cI, 10, .inl g_Vs_price))] := hD
    refine lv_aload_n hx hb dX3_put_20 rfl (lv_at hl 0 rfl) ?_
    refine k_get hC hK hP iX3 0 1 wf_X3_15 rfl (by decide) rfl rfl dX3_put_21 ?_
    refine lv_aload_n hx hb dX3_put_24 rfl (lv_at hl 0 rfl) ?_
    refine k_get hC hK hP iX3 0 4 wf_X3_24 rfl (by decide) rfl rfl dX3_put_25 ?_
    refine lv_iload_n hx hb dX3_put_28 rfl (lv_at hl 2 rfl) ?_
    refine t_iast hC hK hP hD hS 2 rfl (by omega) (by omega) (TA.all _) ⟨i_lo _, i_hi _⟩ dX3_put_29 (fun f3 H locs hT_f3 hP hD hS => ?_)
    have hP : va_P G cl [(a0, .inr (3, [.ref a1, .ref a2, .ref a3, .ref a4, .int v_Vs_4])), (a1, .inl (cI, 10, .inl f2)), (a2, .inl (cI, 10, .inl f3)), (a3, .inl (cI, 10, .inl g_Vs_trader)), (a4, .inl (cI, 10, .inl g_Vs_price))] H := hP
    have hD : va_D A [(a0, .inr (3, [.ref a1, .ref a2, .ref a3, .ref a4, .int v_Vs_4])), (a1, .inl (cI, 10, .inl f2)), (a2, .inl (cI, 10, .inl f3)), (a3, .inl (cI, 10, .inl g_Vs_trader)), (a4, .inl (cI, 10, .inl g_Vs_price))] := hD
    refine lv_aload_n hx hb dX3_put_30 rfl (lv_at hl 0 rfl) ?_
    refine k_get hC hK hP iX3 0 2 wf_X3_18 rfl (by decide) rfl rfl dX3_put_31 ?_
    refine lv_aload_n hx hb dX3_put_34 rfl (lv_at hl 0 rfl) ?_
    refine k_get hC hK hP iX3 0 4 wf_X3_24 rfl (by decide) rfl rfl dX3_put_35 ?_
    refine lv_iload_n hx hb dX3_put_38 rfl (lv_at hl 3 rfl) ?_
    refine t_iast hC hK hP hD hS 3 rfl (by omega) (by omega) (TA.all _) ⟨i_lo _, i_hi _⟩ dX3_put_39 (fun f4 H locs hT_f4 hP hD hS => ?_)
    have hP : va_P G cl [(a0, .inr (3, [.ref a1, .ref a2, .ref a3, .ref a4, .int v_Vs_4])), (a1, .inl (cI, 10, .inl f2)), (a2, .inl (cI, 10, .inl f3)), (a3, .inl (cI, 10, .inl f4)), (a4, .inl (cI, 10, .inl g_Vs_price))] H := hP
    have hD : va_D A [(a0, .inr (3, [.ref a1, .ref a2, .ref a3, .ref a4, .int v_Vs_4])), (a1, .inl (cI, 10, .inl f2)), (a2, .inl (cI, 10, .inl f3)), (a3, .inl (cI, 10, .inl f4)), (a4, .inl (cI, 10, .inl g_Vs_price))] := hD
    refine lv_aload_n hx hb dX3_put_40 rfl (lv_at hl 0 rfl) ?_
    refine k_get hC hK hP iX3 0 3 wf_X3_21 rfl (by decide) rfl rfl dX3_put_41 ?_
    refine lv_aload_n hx hb dX3_put_44 rfl (lv_at hl 0 rfl) ?_
    refine k_get hC hK hP iX3 0 4 wf_X3_24 rfl (by decide) rfl rfl dX3_put_45 ?_
    refine lv_iload hx hb dX3_put_48 (lv_at hl 4 rfl) ?_
    refine t_iast hC hK hP hD hS 4 rfl (by omega) (by omega) (TA.all _) ⟨i_lo _, i_hi _⟩ dX3_put_50 (fun f5 H locs hT_f5 hP hD hS => ?_)
    have hP : va_P G cl [(a0, .inr (3, [.ref a1, .ref a2, .ref a3, .ref a4, .int v_Vs_4])), (a1, .inl (cI, 10, .inl f2)), (a2, .inl (cI, 10, .inl f3)), (a3, .inl (cI, 10, .inl f4)), (a4, .inl (cI, 10, .inl f5))] H := hP
    have hD : va_D A [(a0, .inr (3, [.ref a1, .ref a2, .ref a3, .ref a4, .int v_Vs_4])), (a1, .inl (cI, 10, .inl f2)), (a2, .inl (cI, 10, .inl f3)), (a3, .inl (cI, 10, .inl f4)), (a4, .inl (cI, 10, .inl f5))] := hD
    refine lv_aload_n hx hb dX3_put_51 rfl (lv_at hl 0 rfl) ?_
    refine lv_dup hx hb dX3_put_52 rfl ?_
    refine k_get hC hK hP iX3 0 4 wf_X3_24 rfl (by decide) rfl rfl dX3_put_53 ?_
    refine lv_iconst (v := 1) hx hb dX3_put_56 (by decide) ?_
    refine lv_iadd hx hb dX3_put_57 ?_
    refine t_i (fun q => q.toInt = v_Vs_4.toInt + 1) (add_i (by show (-2147483648 : Int) ≤ v_Vs_4.toInt + 1; omega) (by show v_Vs_4.toInt + 1 ≤ (2147483647 : Int); omega)) (fun z6 tz6 => ?_)
    refine k_put hC hK hP hD hS iX3 tyX3_ok nmX3 0 4 wf_X3_24 rfl (by decide) rfl rfl rfl rfl (Nat.le_of_ble_eq_true rfl) dX3_put_58 (fun H locs hP hD hS => ?_)
    have hP : va_P G cl [(a0, .inr (3, [.ref a1, .ref a2, .ref a3, .ref a4, .int z6])), (a1, .inl (cI, 10, .inl f2)), (a2, .inl (cI, 10, .inl f3)), (a3, .inl (cI, 10, .inl f4)), (a4, .inl (cI, 10, .inl f5))] H := hP
    have hD : va_D A [(a0, .inr (3, [.ref a1, .ref a2, .ref a3, .ref a4, .int z6])), (a1, .inl (cI, 10, .inl f2)), (a2, .inl (cI, 10, .inl f3)), (a3, .inl (cI, 10, .inl f4)), (a4, .inl (cI, 10, .inl f5))] := hD
    rw [← hQm]
    exact k_vret hC hr hlk hK hP hD hS (z6, f2, f3, f4, f5) [0, 1, 2, 3, 4] rfl (by decide +kernel) (show 1 ≤ z6.toInt ∧ z6.toInt ≤ 10 from by omega) (Nat.le_of_ble_eq_true rfl) (Nat.le_of_ble_eq_true rfl) dX3_put_61
  · have dc1 : 10 ≤ v_Vs_4.toInt := fa_nlt c1
    rw [← hQm]
    exact k_vret hC hr hlk hK hP hD hS (v_Vs_4, g_Vs_stones, g_Vs_year, g_Vs_trader, g_Vs_price) [0, 1, 2, 3, 4] rfl (by decide +kernel) (show 1 ≤ v_Vs_4.toInt ∧ v_Vs_4.toInt ≤ 10 from by omega) (Nat.le_of_ble_eq_true rfl) (Nat.le_of_ble_eq_true rfl) dX3_put_9
theorem dX5_putFour_0 : decode cX5_putFour 0 = .ok (.bipush 24, 2) := by decide +kernel
theorem dX5_putFour_2 : decode cX5_putFour 2 = .ok (.istore_n 2, 1) := by decide +kernel
theorem dX5_putFour_3 : decode cX5_putFour 3 = .ok (.iload_n 2, 1) := by decide +kernel
theorem dX5_putFour_4 : decode cX5_putFour 4 = .ok (.ifCond .lt 42, 3) := by decide +kernel
theorem dX5_putFour_46 : decode cX5_putFour 46 = .ok (.return_, 1) := by decide +kernel
theorem dX5_putFour_7 : decode cX5_putFour 7 = .ok (.aload_n 0, 1) := by decide +kernel
theorem dX5_putFour_8 : decode cX5_putFour 8 = .ok (.getfield 15, 3) := by decide +kernel
set_option maxRecDepth 100000 in
theorem wf_X5_15 : Cond.fieldLink RX5 15 "StoneTrust$Tape" "length" "I" ∈ gw := gm (List.mem_of_getElem? (i := 310) (by decide +kernel)) rfl
theorem dX5_putFour_11 : decode cX5_putFour 11 = .ok (.sipush 1300, 3) := by decide +kernel
theorem dX5_putFour_14 : decode cX5_putFour 14 = .ok (.if_icmp .ge 26, 3) := by decide +kernel
theorem dX5_putFour_40 : decode cX5_putFour 40 = .ok (.iinc 2 (-8), 3) := by decide +kernel
theorem dX5_putFour_43 : decode cX5_putFour 43 = .ok (.goto (-40), 3) := by decide +kernel
theorem dX5_putFour_17 : decode cX5_putFour 17 = .ok (.aload_n 0, 1) := by decide +kernel
theorem dX5_putFour_18 : decode cX5_putFour 18 = .ok (.getfield 9, 3) := by decide +kernel
set_option maxRecDepth 100000 in
theorem wf_X5_9 : Cond.fieldLink RX5 9 "StoneTrust$Tape" "bytes" "[B" ∈ gw := gm (List.mem_of_getElem? (i := 309) (by decide +kernel)) rfl
theorem dX5_putFour_21 : decode cX5_putFour 21 = .ok (.aload_n 0, 1) := by decide +kernel
theorem dX5_putFour_22 : decode cX5_putFour 22 = .ok (.getfield 15, 3) := by decide +kernel
theorem dX5_putFour_25 : decode cX5_putFour 25 = .ok (.iload_n 1, 1) := by decide +kernel
theorem dX5_putFour_26 : decode cX5_putFour 26 = .ok (.iload_n 2, 1) := by decide +kernel
theorem dX5_putFour_27 : decode cX5_putFour 27 = .ok (.ishr, 1) := by decide +kernel
theorem dX5_putFour_28 : decode cX5_putFour 28 = .ok (.i2b, 1) := by decide +kernel
theorem dX5_putFour_29 : decode cX5_putFour 29 = .ok (.bastore, 1) := by decide +kernel
theorem dX5_putFour_30 : decode cX5_putFour 30 = .ok (.aload_n 0, 1) := by decide +kernel
theorem dX5_putFour_31 : decode cX5_putFour 31 = .ok (.dup, 1) := by decide +kernel
theorem dX5_putFour_32 : decode cX5_putFour 32 = .ok (.getfield 15, 3) := by decide +kernel
theorem dX5_putFour_35 : decode cX5_putFour 35 = .ok (.iconst 1, 1) := by decide +kernel
theorem dX5_putFour_36 : decode cX5_putFour 36 = .ok (.iadd, 1) := by decide +kernel
theorem dX5_putFour_37 : decode cX5_putFour 37 = .ok (.putfield 15, 3) := by decide +kernel
set_option maxHeartbeats 4000000 in
set_option maxRecDepth 100000 in
theorem c14_X5_putFour (l : Launch) (G : va_G) (cI cJ cB cZ : ClassId) (a0 a1 : Nat) (b1 : Int32) (v_tp_1 : Int32) (v_tp_2 : Int32) (v_tp_3 : Int32) (v_tp_4 : Int32) (w_tp_5 : Int64) (v_tp_6 : Int32) (g_tp_bytes : Nat → Int32) (hv_0 : 0 ≤ v_tp_1.toInt) (hv_1 : v_tp_1.toInt ≤ 1300) (hv_2 : 0 ≤ v_tp_2.toInt) (hv_3 : v_tp_2.toInt ≤ 1300) (hT_g_tp_bytes : TA (-128) 127 g_tp_bytes) : Con l G (TY cI cJ cB cZ) yX5_putFour cX5_putFour 3 none ({ frames := 0, cells := 0, slots := 0, locals := 0 } : Room) [.ref a0, .int b1] [(a0, .inr (5, [.ref a1, .int v_tp_1, .int v_tp_2, .int v_tp_3, .int v_tp_4, .long w_tp_5, .int v_tp_6])), (a1, .inl (cB, 1300, .inl g_tp_bytes))] (QV G (TY cI cJ cB cZ) (fun u : Int32 × (Nat → Int32) => (0 ≤ u.1.toInt ∧ u.1.toInt ≤ 1300) ∧ TA (-128) 127 u.2) (fun u : Int32 × (Nat → Int32) => [(a0, .inr (5, [.ref a1, .int u.1, .int v_tp_2, .int v_tp_3, .int v_tp_4, .long w_tp_5, .int v_tp_6])), (a1, .inl (cB, 1300, .inl u.2))])) := by
  refine k_met (by decide) (Nat.le_of_ble_eq_true rfl) ?_
  intro p e s m below meth c A ls hC hr hlk hnm hN hZ hK hA hP hD hS hl
  have hl : lv_has ls 3 [(0, .ref a0), (1, .int b1)] := hl
  generalize hQm : MQ below _ _ s _ _ A = Qm
  generalize (List.toArray _ : Array Value) = args at hC hQm ⊢
  obtain ⟨hx, hb, hml, hown, hts⟩ := id hC
  obtain ⟨H, hH⟩ : ∃ q, q = s.heap := ⟨_, rfl⟩
  obtain ⟨locs, hlo⟩ : ∃ q : List Loc, q = [] := ⟨_, rfl⟩
  have hP : va_P G cl [(a0, .inr (5, [.ref a1, .int v_tp_1, .int v_tp_2, .int v_tp_3, .int v_tp_4, .long w_tp_5, .int v_tp_6])), (a1, .inl (cB, 1300, .inl g_tp_bytes))] H := by rw [hH]; exact hP
  have hS : va_S A s.heap H locs := by rw [hH, hlo]; exact hS
  rw [← hlo]
  rw [← hH]
  refine lv_bipush (v := 24) hx hb dX5_putFour_0 (by decide) ?_
  refine lv_istore_n (lv' := [(2, .int 24), (0, .ref a0), (1, .int b1)]) hx hb dX5_putFour_2 rfl hl (by decide) rfl (fun ls hl => ?_)
  have L_3 : ∀ (n : Nat) (x1 : Int32) (f2 : Nat → Int32) (h3 : Int32) (H : Heap) (locs : List Loc) (ls : Array Slot), ((-128) ≤ x1.toInt ∧ x1.toInt ≤ 24 ∧ 0 ≤ h3.toInt ∧ h3.toInt ≤ 1300) → x1.toInt - (-128) < (n : Int) → TA (-128) 127 f2 → va_P G cl [(a0, .inr (5, [.ref a1, .int h3, .int v_tp_2, .int v_tp_3, .int v_tp_4, .long w_tp_5, .int v_tp_6])), (a1, .inl (cB, 1300, .inl f2))] H → va_D A [(a0, .inr (5, [.ref a1, .int h3, .int v_tp_2, .int v_tp_3, .int v_tp_4, .long w_tp_5, .int v_tp_6])), (a1, .inl (cB, 1300, .inl f2))] → va_S A s.heap H locs → lv_has ls 3 [(0, .ref a0), (1, .int b1), (2, .int x1)] → W p l e ({ frames := 0, cells := 0, slots := 0, locals := 0 } : Room) s m args below meth c H locs 0 0 Qm (F0 m 3 ls []) := by
    intro n
    induction n with
    | zero => intro x1 f2 h3 H locs ls hv hm; omega
    | succ n ih =>
      intro x1 f2 h3 H locs ls hv hm hT_f2 hP hD hS hl
      refine lv_iload_n hx hb dX5_putFour_3 rfl (lv_at hl 2 rfl) ?_
      refine lv_if_lt (tgt := 46) hx hb dX5_putFour_4 (by decide) (fun c4 => ?_) (fun c4 => ?_)
      · have dc4 : x1.toInt < 0 := (fa_lt _ _).mp c4
        rw [← hQm]
        exact k_vret hC hr hlk hK hP hD hS (h3, f2) [0, 1] rfl (by decide +kernel) ⟨(show 0 ≤ h3.toInt ∧ h3.toInt ≤ 1300 from by omega), hT_f2⟩ (Nat.le_of_ble_eq_true rfl) (Nat.le_of_ble_eq_true rfl) dX5_putFour_46
      · have dc4 : 0 ≤ x1.toInt := fa_nlt c4
        refine lv_aload_n hx hb dX5_putFour_7 rfl (lv_at hl 0 rfl) ?_
        refine k_get hC hK hP iX5 0 1 wf_X5_15 rfl (by decide) rfl rfl dX5_putFour_8 ?_
        refine lv_sipush (v := 1300) hx hb dX5_putFour_11 (by decide) ?_
        refine lv_icmp_ge (tgt := 40) hx hb dX5_putFour_14 (by decide) (fun c5 => ?_) (fun c5 => ?_)
        · have dc5 : 1300 ≤ h3.toInt := (fa_le _ _).mp c5
          obtain ⟨z6, ez6⟩ : ∃ q : Int32, q = x1 + Int32.ofInt (-8) := ⟨_, rfl⟩
          have tz6 : z6.toInt = x1.toInt + (-8) := by rw [ez6]; exact add_i (y := (-8)) (by have p_ := i_lo x1; show _ ≤ _ + ((-8) : Int); omega) (by have q_ := i_hi x1; show _ + ((-8) : Int) ≤ _; omega)
          refine lv_iinc (v := z6) (lv' := [(2, .int z6), (0, .ref a0), (1, .int b1)]) hx hb dX5_putFour_40 hl (k := 2) rfl ez6.symm (by decide) rfl (fun ls hl => ?_)
          refine lv_goto (tgt := 3) hx hb dX5_putFour_43 (by decide) ?_
          exact ih  z6 f2 h3 H locs ls (by omega) (by omega) hT_f2 (hP.subm [0, 1] rfl) (hD.sub [0, 1] (by decide +kernel) rfl) hS (lv_sub hl [1, 2, 0] rfl)
        · have dc5 : h3.toInt < 1300 := fa_nle c5
          refine lv_aload_n hx hb dX5_putFour_17 rfl (lv_at hl 0 rfl) ?_
          refine k_get hC hK hP iX5 0 0 wf_X5_9 rfl (by decide) rfl rfl dX5_putFour_18 ?_
          refine lv_aload_n hx hb dX5_putFour_21 rfl (lv_at hl 0 rfl) ?_
          refine k_get hC hK hP iX5 0 1 wf_X5_15 rfl (by decide) rfl rfl dX5_putFour_22 ?_
          refine lv_iload_n hx hb dX5_putFour_25 rfl (lv_at hl 1 rfl) ?_
          refine lv_iload_n hx hb dX5_putFour_26 rfl (lv_at hl 2 rfl) ?_
          refine lv_ishr hx hb dX5_putFour_27 ?_
          refine lv_topi (fun z7 _ => ?_)
          refine lv_i2b hx hb dX5_putFour_28 rfl ?_
          refine t_i (fun q => -128 ≤ q.toInt ∧ q.toInt ≤ 127) (i2b_b _) (fun z8 tz8 => ?_)
          refine t_bast hC hK hP hD hS 1 rfl (by omega) (by omega) hT_f2 dX5_putFour_29 (fun f9 H locs hT_f9 hP hD hS => ?_)
          have hP : va_P G cl [(a0, .inr (5, [.ref a1, .int h3, .int v_tp_2, .int v_tp_3, .int v_tp_4, .long w_tp_5, .int v_tp_6])), (a1, .inl (cB, 1300, .inl f9))] H := hP
          have hD : va_D A [(a0, .inr (5, [.ref a1, .int h3, .int v_tp_2, .int v_tp_3, .int v_tp_4, .long w_tp_5, .int v_tp_6])), (a1, .inl (cB, 1300, .inl f9))] := hD
          refine lv_aload_n hx hb dX5_putFour_30 rfl (lv_at hl 0 rfl) ?_
          refine lv_dup hx hb dX5_putFour_31 rfl ?_
          refine k_get hC hK hP iX5 0 1 wf_X5_15 rfl (by decide) rfl rfl dX5_putFour_32 ?_
          refine lv_iconst (v := 1) hx hb dX5_putFour_35 (by decide) ?_
          refine lv_iadd hx hb dX5_putFour_36 ?_
          refine t_i (fun q => q.toInt = h3.toInt + 1) (add_i (by show (-2147483648 : Int) ≤ h3.toInt + 1; omega) (by show h3.toInt + 1 ≤ (2147483647 : Int); omega)) (fun z10 tz10 => ?_)
          refine k_put hC hK hP hD hS iX5 tyX5_ok nmX5 0 1 wf_X5_15 rfl (by decide) rfl rfl rfl rfl (Nat.le_of_ble_eq_true rfl) dX5_putFour_37 (fun H locs hP hD hS => ?_)
          have hP : va_P G cl [(a0, .inr (5, [.ref a1, .int z10, .int v_tp_2, .int v_tp_3, .int v_tp_4, .long w_tp_5, .int v_tp_6])), (a1, .inl (cB, 1300, .inl f9))] H := hP
          have hD : va_D A [(a0, .inr (5, [.ref a1, .int z10, .int v_tp_2, .int v_tp_3, .int v_tp_4, .long w_tp_5, .int v_tp_6])), (a1, .inl (cB, 1300, .inl f9))] := hD
          obtain ⟨z11, ez11⟩ : ∃ q : Int32, q = x1 + Int32.ofInt (-8) := ⟨_, rfl⟩
          have tz11 : z11.toInt = x1.toInt + (-8) := by rw [ez11]; exact add_i (y := (-8)) (by have p_ := i_lo x1; show _ ≤ _ + ((-8) : Int); omega) (by have q_ := i_hi x1; show _ + ((-8) : Int) ≤ _; omega)
          refine lv_iinc (v := z11) (lv' := [(2, .int z11), (0, .ref a0), (1, .int b1)]) hx hb dX5_putFour_40 hl (k := 2) rfl ez11.symm (by decide) rfl (fun ls hl => ?_)
          refine lv_goto (tgt := 3) hx hb dX5_putFour_43 (by decide) ?_
          exact ih  z11 f9 z10 H locs ls (by omega) (by omega) hT_f9 (hP.subm [0, 1] rfl) (hD.sub [0, 1] (by decide +kernel) rfl) hS (lv_sub hl [1, 2, 0] rfl)
  have l_l12 : (24 : Int32).toInt = 24 := rfl
  exact L_3 153 24 g_tp_bytes v_tp_1 H locs ls (by omega) (by omega) hT_g_tp_bytes (hP.subm [0, 1] rfl) (hD.sub [0, 1] (by decide +kernel) rfl) hS (lv_sub hl [1, 2, 0] rfl)
theorem dX5_isBlank_0 : decode cX5_isBlank 0 = .ok (.iload_n 0, 1) := by decide +kernel
theorem dX5_isBlank_1 : decode cX5_isBlank 1 = .ok (.bipush 32, 2) := by decide +kernel
theorem dX5_isBlank_3 : decode cX5_isBlank 3 = .ok (.if_icmp .eq 9, 3) := by decide +kernel
theorem dX5_isBlank_12 : decode cX5_isBlank 12 = .ok (.iconst 1, 1) := by decide +kernel
theorem dX5_isBlank_13 : decode cX5_isBlank 13 = .ok (.goto 4, 3) := by decide +kernel
theorem dX5_isBlank_17 : decode cX5_isBlank 17 = .ok (.ireturn, 1) := by decide +kernel
theorem dX5_isBlank_6 : decode cX5_isBlank 6 = .ok (.iload_n 0, 1) := by decide +kernel
theorem dX5_isBlank_7 : decode cX5_isBlank 7 = .ok (.bipush 10, 2) := by decide +kernel
theorem dX5_isBlank_9 : decode cX5_isBlank 9 = .ok (.if_icmp .ne 7, 3) := by decide +kernel
theorem dX5_isBlank_16 : decode cX5_isBlank 16 = .ok (.iconst 0, 1) := by decide +kernel
set_option maxHeartbeats 4000000 in
set_option maxRecDepth 100000 in
theorem c15_X5_isBlank (l : Launch) (G : va_G) (cI cJ cB cZ : ClassId) (b0 : Int32) : Con l G (TY cI cJ cB cZ) yX5_isBlank cX5_isBlank 1 (some .boolean) ({ frames := 0, cells := 0, slots := 0, locals := 0 } : Room) [.int b0] [] (QI G (TY cI cJ cB cZ) (fun (r : Int32) (u : Unit) => (0 ≤ r.toInt ∧ r.toInt ≤ 1)) (fun u : Unit => [])) := by
  refine k_met (by decide) (Nat.le_of_ble_eq_true rfl) ?_
  intro p e s m below meth c A ls hC hr hlk hnm hN hZ hK hA hP hD hS hl
  have hl : lv_has ls 1 [(0, .int b0)] := hl
  generalize hQm : MQ below _ _ s _ _ A = Qm
  generalize (List.toArray _ : Array Value) = args at hC hQm ⊢
  obtain ⟨hx, hb, hml, hown, hts⟩ := id hC
  obtain ⟨H, hH⟩ : ∃ q, q = s.heap := ⟨_, rfl⟩
  obtain ⟨locs, hlo⟩ : ∃ q : List Loc, q = [] := ⟨_, rfl⟩
  have hP : va_P G cl [] H := by rw [hH]; exact hP
  have hS : va_S A s.heap H locs := by rw [hH, hlo]; exact hS
  rw [← hlo]
  rw [← hH]
  refine lv_iload_n hx hb dX5_isBlank_0 rfl (lv_at hl 0 rfl) ?_
  refine lv_bipush (v := 32) hx hb dX5_isBlank_1 (by decide) ?_
  refine lv_icmp_eq (tgt := 12) hx hb dX5_isBlank_3 (by decide) (fun c1 => ?_) (fun c1 => ?_)
  · have dc1 : b0.toInt = 32 := (fa_eq _ _).mp c1; have lbc1_0 := i_lo b0; have ubc1_0 := i_hi b0
    refine lv_iconst (v := 1) hx hb dX5_isBlank_12 (by decide) ?_
    refine lv_goto (tgt := 17) hx hb dX5_isBlank_13 (by decide) ?_
    have l_l2 : (1 : Int32).toInt = 1 := rfl
    rw [← hQm]
    exact k_zret hC hr hlk hK hP hD hS () [] rfl (by decide +kernel) rfl (show 0 ≤ (1 : Int32).toInt ∧ (1 : Int32).toInt ≤ 1 from by omega) (Nat.le_of_ble_eq_true rfl) (Nat.le_of_ble_eq_true rfl) dX5_isBlank_17
  · have dc1 : b0.toInt ≠ 32 := fa_ne c1; have lbc1_0 := i_lo b0; have ubc1_0 := i_hi b0
    refine lv_iload_n hx hb dX5_isBlank_6 rfl (lv_at hl 0 rfl) ?_
    refine lv_bipush (v := 10) hx hb dX5_isBlank_7 (by decide) ?_
    refine lv_icmp_ne (tgt := 16) hx hb dX5_isBlank_9 (by decide) (fun c3 => ?_) (fun c3 => ?_)
    · have dc3 : b0.toInt ≠ 10 := fa_ne c3; have lbc3_0 := i_lo b0; have ubc3_0 := i_hi b0
      refine lv_iconst (v := 0) hx hb dX5_isBlank_16 (by decide) ?_
      have l_l4 : (0 : Int32).toInt = 0 := rfl
      rw [← hQm]
      exact k_zret hC hr hlk hK hP hD hS () [] rfl (by decide +kernel) rfl (show 0 ≤ (0 : Int32).toInt ∧ (0 : Int32).toInt ≤ 1 from by omega) (Nat.le_of_ble_eq_true rfl) (Nat.le_of_ble_eq_true rfl) dX5_isBlank_17
    · have dc3 : b0.toInt = 10 := (fa_eq _ _).mp c3; have lbc3_0 := i_lo b0; have ubc3_0 := i_hi b0
      refine lv_iconst (v := 1) hx hb dX5_isBlank_12 (by decide) ?_
      refine lv_goto (tgt := 17) hx hb dX5_isBlank_13 (by decide) ?_
      have l_l5 : (1 : Int32).toInt = 1 := rfl
      rw [← hQm]
      exact k_zret hC hr hlk hK hP hD hS () [] rfl (by decide +kernel) rfl (show 0 ≤ (1 : Int32).toInt ∧ (1 : Int32).toInt ≤ 1 from by omega) (Nat.le_of_ble_eq_true rfl) (Nat.le_of_ble_eq_true rfl) dX5_isBlank_17
theorem dX5_isLetter_0 : decode cX5_isLetter 0 = .ok (.iload_n 0, 1) := by decide +kernel
theorem dX5_isLetter_1 : decode cX5_isLetter 1 = .ok (.bipush 97, 2) := by decide +kernel
theorem dX5_isLetter_3 : decode cX5_isLetter 3 = .ok (.if_icmp .lt 13, 3) := by decide +kernel
theorem dX5_isLetter_16 : decode cX5_isLetter 16 = .ok (.iconst 0, 1) := by decide +kernel
theorem dX5_isLetter_17 : decode cX5_isLetter 17 = .ok (.ireturn, 1) := by decide +kernel
theorem dX5_isLetter_6 : decode cX5_isLetter 6 = .ok (.iload_n 0, 1) := by decide +kernel
theorem dX5_isLetter_7 : decode cX5_isLetter 7 = .ok (.bipush 122, 2) := by decide +kernel
theorem dX5_isLetter_9 : decode cX5_isLetter 9 = .ok (.if_icmp .gt 7, 3) := by decide +kernel
theorem dX5_isLetter_12 : decode cX5_isLetter 12 = .ok (.iconst 1, 1) := by decide +kernel
theorem dX5_isLetter_13 : decode cX5_isLetter 13 = .ok (.goto 4, 3) := by decide +kernel
set_option maxHeartbeats 4000000 in
set_option maxRecDepth 100000 in
theorem c16_X5_isLetter (l : Launch) (G : va_G) (cI cJ cB cZ : ClassId) (b0 : Int32) : Con l G (TY cI cJ cB cZ) yX5_isLetter cX5_isLetter 1 (some .boolean) ({ frames := 0, cells := 0, slots := 0, locals := 0 } : Room) [.int b0] [] (QI G (TY cI cJ cB cZ) (fun (r : Int32) (u : Unit) => (0 ≤ r.toInt ∧ r.toInt ≤ 1)) (fun u : Unit => [])) := by
  refine k_met (by decide) (Nat.le_of_ble_eq_true rfl) ?_
  intro p e s m below meth c A ls hC hr hlk hnm hN hZ hK hA hP hD hS hl
  have hl : lv_has ls 1 [(0, .int b0)] := hl
  generalize hQm : MQ below _ _ s _ _ A = Qm
  generalize (List.toArray _ : Array Value) = args at hC hQm ⊢
  obtain ⟨hx, hb, hml, hown, hts⟩ := id hC
  obtain ⟨H, hH⟩ : ∃ q, q = s.heap := ⟨_, rfl⟩
  obtain ⟨locs, hlo⟩ : ∃ q : List Loc, q = [] := ⟨_, rfl⟩
  have hP : va_P G cl [] H := by rw [hH]; exact hP
  have hS : va_S A s.heap H locs := by rw [hH, hlo]; exact hS
  rw [← hlo]
  rw [← hH]
  refine lv_iload_n hx hb dX5_isLetter_0 rfl (lv_at hl 0 rfl) ?_
  refine lv_bipush (v := 97) hx hb dX5_isLetter_1 (by decide) ?_
  refine lv_icmp_lt (tgt := 16) hx hb dX5_isLetter_3 (by decide) (fun c1 => ?_) (fun c1 => ?_)
  · have dc1 : b0.toInt < 97 := (fa_lt _ _).mp c1; have lbc1_0 := i_lo b0; have ubc1_0 := i_hi b0
    refine lv_iconst (v := 0) hx hb dX5_isLetter_16 (by decide) ?_
    have l_l2 : (0 : Int32).toInt = 0 := rfl
    rw [← hQm]
    exact k_zret hC hr hlk hK hP hD hS () [] rfl (by decide +kernel) rfl (show 0 ≤ (0 : Int32).toInt ∧ (0 : Int32).toInt ≤ 1 from by omega) (Nat.le_of_ble_eq_true rfl) (Nat.le_of_ble_eq_true rfl) dX5_isLetter_17
  · have dc1 : 97 ≤ b0.toInt := fa_nlt c1; have lbc1_0 := i_lo b0; have ubc1_0 := i_hi b0
    refine lv_iload_n hx hb dX5_isLetter_6 rfl (lv_at hl 0 rfl) ?_
    refine lv_bipush (v := 122) hx hb dX5_isLetter_7 (by decide) ?_
    refine lv_icmp_gt (tgt := 16) hx hb dX5_isLetter_9 (by decide) (fun c3 => ?_) (fun c3 => ?_)
    · have dc3 : 122 < b0.toInt := (fa_lt _ _).mp c3; have ubc3_1 := i_hi b0
      refine lv_iconst (v := 0) hx hb dX5_isLetter_16 (by decide) ?_
      have l_l4 : (0 : Int32).toInt = 0 := rfl
      rw [← hQm]
      exact k_zret hC hr hlk hK hP hD hS () [] rfl (by decide +kernel) rfl (show 0 ≤ (0 : Int32).toInt ∧ (0 : Int32).toInt ≤ 1 from by omega) (Nat.le_of_ble_eq_true rfl) (Nat.le_of_ble_eq_true rfl) dX5_isLetter_17
    · have dc3 : b0.toInt ≤ 122 := fa_nlt c3; have ubc3_1 := i_hi b0
      refine lv_iconst (v := 1) hx hb dX5_isLetter_12 (by decide) ?_
      refine lv_goto (tgt := 17) hx hb dX5_isLetter_13 (by decide) ?_
      have l_l5 : (1 : Int32).toInt = 1 := rfl
      rw [← hQm]
      exact k_zret hC hr hlk hK hP hD hS () [] rfl (by decide +kernel) rfl (show 0 ≤ (1 : Int32).toInt ∧ (1 : Int32).toInt ≤ 1 from by omega) (Nat.le_of_ble_eq_true rfl) (Nat.le_of_ble_eq_true rfl) dX5_isLetter_17
theorem dX5_isDigit_0 : decode cX5_isDigit 0 = .ok (.iload_n 0, 1) := by decide +kernel
theorem dX5_isDigit_1 : decode cX5_isDigit 1 = .ok (.bipush 48, 2) := by decide +kernel
theorem dX5_isDigit_3 : decode cX5_isDigit 3 = .ok (.if_icmp .lt 13, 3) := by decide +kernel
theorem dX5_isDigit_16 : decode cX5_isDigit 16 = .ok (.iconst 0, 1) := by decide +kernel
theorem dX5_isDigit_17 : decode cX5_isDigit 17 = .ok (.ireturn, 1) := by decide +kernel
theorem dX5_isDigit_6 : decode cX5_isDigit 6 = .ok (.iload_n 0, 1) := by decide +kernel
theorem dX5_isDigit_7 : decode cX5_isDigit 7 = .ok (.bipush 57, 2) := by decide +kernel
theorem dX5_isDigit_9 : decode cX5_isDigit 9 = .ok (.if_icmp .gt 7, 3) := by decide +kernel
theorem dX5_isDigit_12 : decode cX5_isDigit 12 = .ok (.iconst 1, 1) := by decide +kernel
theorem dX5_isDigit_13 : decode cX5_isDigit 13 = .ok (.goto 4, 3) := by decide +kernel
set_option maxHeartbeats 4000000 in
set_option maxRecDepth 100000 in
theorem c17_X5_isDigit (l : Launch) (G : va_G) (cI cJ cB cZ : ClassId) (b0 : Int32) : Con l G (TY cI cJ cB cZ) yX5_isDigit cX5_isDigit 1 (some .boolean) ({ frames := 0, cells := 0, slots := 0, locals := 0 } : Room) [.int b0] [] (QI G (TY cI cJ cB cZ) (fun (r : Int32) (u : Unit) => (0 ≤ r.toInt ∧ r.toInt ≤ 1)) (fun u : Unit => [])) := by
  refine k_met (by decide) (Nat.le_of_ble_eq_true rfl) ?_
  intro p e s m below meth c A ls hC hr hlk hnm hN hZ hK hA hP hD hS hl
  have hl : lv_has ls 1 [(0, .int b0)] := hl
  generalize hQm : MQ below _ _ s _ _ A = Qm
  generalize (List.toArray _ : Array Value) = args at hC hQm ⊢
  obtain ⟨hx, hb, hml, hown, hts⟩ := id hC
  obtain ⟨H, hH⟩ : ∃ q, q = s.heap := ⟨_, rfl⟩
  obtain ⟨locs, hlo⟩ : ∃ q : List Loc, q = [] := ⟨_, rfl⟩
  have hP : va_P G cl [] H := by rw [hH]; exact hP
  have hS : va_S A s.heap H locs := by rw [hH, hlo]; exact hS
  rw [← hlo]
  rw [← hH]
  refine lv_iload_n hx hb dX5_isDigit_0 rfl (lv_at hl 0 rfl) ?_
  refine lv_bipush (v := 48) hx hb dX5_isDigit_1 (by decide) ?_
  refine lv_icmp_lt (tgt := 16) hx hb dX5_isDigit_3 (by decide) (fun c1 => ?_) (fun c1 => ?_)
  · have dc1 : b0.toInt < 48 := (fa_lt _ _).mp c1; have lbc1_0 := i_lo b0; have ubc1_0 := i_hi b0
    refine lv_iconst (v := 0) hx hb dX5_isDigit_16 (by decide) ?_
    have l_l2 : (0 : Int32).toInt = 0 := rfl
    rw [← hQm]
    exact k_zret hC hr hlk hK hP hD hS () [] rfl (by decide +kernel) rfl (show 0 ≤ (0 : Int32).toInt ∧ (0 : Int32).toInt ≤ 1 from by omega) (Nat.le_of_ble_eq_true rfl) (Nat.le_of_ble_eq_true rfl) dX5_isDigit_17
  · have dc1 : 48 ≤ b0.toInt := fa_nlt c1; have lbc1_0 := i_lo b0; have ubc1_0 := i_hi b0
    refine lv_iload_n hx hb dX5_isDigit_6 rfl (lv_at hl 0 rfl) ?_
    refine lv_bipush (v := 57) hx hb dX5_isDigit_7 (by decide) ?_
    refine lv_icmp_gt (tgt := 16) hx hb dX5_isDigit_9 (by decide) (fun c3 => ?_) (fun c3 => ?_)
    · have dc3 : 57 < b0.toInt := (fa_lt _ _).mp c3; have ubc3_1 := i_hi b0
      refine lv_iconst (v := 0) hx hb dX5_isDigit_16 (by decide) ?_
      have l_l4 : (0 : Int32).toInt = 0 := rfl
      rw [← hQm]
      exact k_zret hC hr hlk hK hP hD hS () [] rfl (by decide +kernel) rfl (show 0 ≤ (0 : Int32).toInt ∧ (0 : Int32).toInt ≤ 1 from by omega) (Nat.le_of_ble_eq_true rfl) (Nat.le_of_ble_eq_true rfl) dX5_isDigit_17
    · have dc3 : b0.toInt ≤ 57 := fa_nlt c3; have ubc3_1 := i_hi b0
      refine lv_iconst (v := 1) hx hb dX5_isDigit_12 (by decide) ?_
      refine lv_goto (tgt := 17) hx hb dX5_isDigit_13 (by decide) ?_
      have l_l5 : (1 : Int32).toInt = 1 := rfl
      rw [← hQm]
      exact k_zret hC hr hlk hK hP hD hS () [] rfl (by decide +kernel) rfl (show 0 ≤ (1 : Int32).toInt ∧ (1 : Int32).toInt ≤ 1 from by omega) (Nat.le_of_ble_eq_true rfl) (Nat.le_of_ble_eq_true rfl) dX5_isDigit_17
theorem dX5_scanNumber_0 : decode cX5_scanNumber 0 = .ok (.aload_n 0, 1) := by decide +kernel
theorem dX5_scanNumber_1 : decode cX5_scanNumber 1 = .ok (.iconst 0, 1) := by decide +kernel
theorem dX5_scanNumber_2 : decode cX5_scanNumber 2 = .ok (.putfield 32, 3) := by decide +kernel
set_option maxRecDepth 100000 in
theorem wf_X5_32 : Cond.fieldLink RX5 32 "StoneTrust$Tape" "number" "I" ∈ gw := gm (List.mem_of_getElem? (i := 319) (by decide +kernel)) rfl
theorem dX5_scanNumber_5 : decode cX5_scanNumber 5 = .ok (.aload_n 0, 1) := by decide +kernel
theorem dX5_scanNumber_6 : decode cX5_scanNumber 6 = .ok (.getfield 19, 3) := by decide +kernel
set_option maxRecDepth 100000 in
theorem wf_X5_19 : Cond.fieldLink RX5 19 "StoneTrust$Tape" "at" "I" ∈ gw := gm (List.mem_of_getElem? (i := 312) (by decide +kernel)) rfl
theorem dX5_scanNumber_9 : decode cX5_scanNumber 9 = .ok (.aload_n 0, 1) := by decide +kernel
theorem dX5_scanNumber_10 : decode cX5_scanNumber 10 = .ok (.getfield 15, 3) := by decide +kernel
theorem dX5_scanNumber_13 : decode cX5_scanNumber 13 = .ok (.if_icmp .ge 55, 3) := by decide +kernel
theorem dX5_scanNumber_68 : decode cX5_scanNumber 68 = .ok (.aload_n 0, 1) := by decide +kernel
theorem dX5_scanNumber_69 : decode cX5_scanNumber 69 = .ok (.getfield 19, 3) := by decide +kernel
theorem dX5_scanNumber_72 : decode cX5_scanNumber 72 = .ok (.aload_n 0, 1) := by decide +kernel
theorem dX5_scanNumber_73 : decode cX5_scanNumber 73 = .ok (.getfield 15, 3) := by decide +kernel
theorem dX5_scanNumber_76 : decode cX5_scanNumber 76 = .ok (.if_icmp .ge 22, 3) := by decide +kernel
theorem dX5_scanNumber_98 : decode cX5_scanNumber 98 = .ok (.iconst 0, 1) := by decide +kernel
theorem dX5_scanNumber_99 : decode cX5_scanNumber 99 = .ok (.istore_n 1, 1) := by decide +kernel
theorem dX5_scanNumber_100 : decode cX5_scanNumber 100 = .ok (.aload_n 0, 1) := by decide +kernel
theorem dX5_scanNumber_101 : decode cX5_scanNumber 101 = .ok (.iload_n 1, 1) := by decide +kernel
theorem dX5_scanNumber_102 : decode cX5_scanNumber 102 = .ok (.ifCond .ne 16, 3) := by decide +kernel
theorem dX5_scanNumber_105 : decode cX5_scanNumber 105 = .ok (.aload_n 0, 1) := by decide +kernel
theorem dX5_scanNumber_106 : decode cX5_scanNumber 106 = .ok (.getfield 19, 3) := by decide +kernel
theorem dX5_scanNumber_109 : decode cX5_scanNumber 109 = .ok (.aload_n 0, 1) := by decide +kernel
theorem dX5_scanNumber_110 : decode cX5_scanNumber 110 = .ok (.getfield 22, 3) := by decide +kernel
set_option maxRecDepth 100000 in
theorem wf_X5_22 : Cond.fieldLink RX5 22 "StoneTrust$Tape" "place" "I" ∈ gw := gm (List.mem_of_getElem? (i := 313) (by decide +kernel)) rfl
theorem dX5_scanNumber_113 : decode cX5_scanNumber 113 = .ok (.isub, 1) := by decide +kernel
theorem dX5_scanNumber_114 : decode cX5_scanNumber 114 = .ok (.iconst 4, 1) := by decide +kernel
theorem dX5_scanNumber_115 : decode cX5_scanNumber 115 = .ok (.if_icmp .le 7, 3) := by decide +kernel
theorem dX5_scanNumber_122 : decode cX5_scanNumber 122 = .ok (.iconst 2, 1) := by decide +kernel
theorem dX5_scanNumber_123 : decode cX5_scanNumber 123 = .ok (.putfield 25, 3) := by decide +kernel
set_option maxRecDepth 100000 in
theorem wf_X5_25 : Cond.fieldLink RX5 25 "StoneTrust$Tape" "kind" "I" ∈ gw := gm (List.mem_of_getElem? (i := 315) (by decide +kernel)) rfl
theorem dX5_scanNumber_126 : decode cX5_scanNumber 126 = .ok (.return_, 1) := by decide +kernel
theorem dX5_scanNumber_118 : decode cX5_scanNumber 118 = .ok (.iconst 4, 1) := by decide +kernel
theorem dX5_scanNumber_119 : decode cX5_scanNumber 119 = .ok (.goto 4, 3) := by decide +kernel
theorem dX5_scanNumber_79 : decode cX5_scanNumber 79 = .ok (.aload_n 0, 1) := by decide +kernel
theorem dX5_scanNumber_80 : decode cX5_scanNumber 80 = .ok (.getfield 9, 3) := by decide +kernel
theorem dX5_scanNumber_83 : decode cX5_scanNumber 83 = .ok (.aload_n 0, 1) := by decide +kernel
theorem dX5_scanNumber_84 : decode cX5_scanNumber 84 = .ok (.getfield 19, 3) := by decide +kernel
theorem dX5_scanNumber_87 : decode cX5_scanNumber 87 = .ok (.baload, 1) := by decide +kernel
theorem dX5_scanNumber_88 : decode cX5_scanNumber 88 = .ok (.invokestatic 42, 3) := by decide +kernel
set_option maxRecDepth 100000 in
theorem wm_X5_42 : Cond.methodLink RX5 42 yX5_isLetter ∈ gw := gm (List.mem_of_getElem? (i := 599) (by decide +kernel)) rfl
set_option maxRecDepth 100000 in
theorem mi_X5_isLetter : MI yX5_isLetter cX5_isLetter 1 (some .boolean) 1 := ⟨gm (List.mem_of_getElem? (i := 601) rfl) rfl, gm (List.mem_of_getElem? (i := 119) (by decide +kernel)) rfl, by decide, by decide, by decide +kernel⟩
set_option maxRecDepth 100000 in
theorem st_X5_isLetter : Cond.static yX5_isLetter ∈ gw := gm (List.mem_of_getElem? (i := 600) (by decide +kernel)) rfl
theorem dX5_scanNumber_91 : decode cX5_scanNumber 91 = .ok (.ifCond .eq 7, 3) := by decide +kernel
theorem dX5_scanNumber_94 : decode cX5_scanNumber 94 = .ok (.iconst 1, 1) := by decide +kernel
theorem dX5_scanNumber_95 : decode cX5_scanNumber 95 = .ok (.goto 4, 3) := by decide +kernel
theorem dX5_scanNumber_16 : decode cX5_scanNumber 16 = .ok (.aload_n 0, 1) := by decide +kernel
theorem dX5_scanNumber_17 : decode cX5_scanNumber 17 = .ok (.getfield 9, 3) := by decide +kernel
theorem dX5_scanNumber_20 : decode cX5_scanNumber 20 = .ok (.aload_n 0, 1) := by decide +kernel
theorem dX5_scanNumber_21 : decode cX5_scanNumber 21 = .ok (.getfield 19, 3) := by decide +kernel
theorem dX5_scanNumber_24 : decode cX5_scanNumber 24 = .ok (.baload, 1) := by decide +kernel
theorem dX5_scanNumber_25 : decode cX5_scanNumber 25 = .ok (.invokestatic 48, 3) := by decide +kernel
set_option maxRecDepth 100000 in
theorem wm_X5_48 : Cond.methodLink RX5 48 yX5_isDigit ∈ gw := gm (List.mem_of_getElem? (i := 606) (by decide +kernel)) rfl
set_option maxRecDepth 100000 in
theorem mi_X5_isDigit : MI yX5_isDigit cX5_isDigit 1 (some .boolean) 1 := ⟨gm (List.mem_of_getElem? (i := 608) rfl) rfl, gm (List.mem_of_getElem? (i := 119) (by decide +kernel)) rfl, by decide, by decide, by decide +kernel⟩
set_option maxRecDepth 100000 in
theorem st_X5_isDigit : Cond.static yX5_isDigit ∈ gw := gm (List.mem_of_getElem? (i := 607) (by decide +kernel)) rfl
theorem dX5_scanNumber_28 : decode cX5_scanNumber 28 = .ok (.ifCond .eq 40, 3) := by decide +kernel
theorem dX5_scanNumber_31 : decode cX5_scanNumber 31 = .ok (.aload_n 0, 1) := by decide +kernel
theorem dX5_scanNumber_32 : decode cX5_scanNumber 32 = .ok (.aload_n 0, 1) := by decide +kernel
theorem dX5_scanNumber_33 : decode cX5_scanNumber 33 = .ok (.getfield 32, 3) := by decide +kernel
theorem dX5_scanNumber_36 : decode cX5_scanNumber 36 = .ok (.bipush 10, 2) := by decide +kernel
theorem dX5_scanNumber_38 : decode cX5_scanNumber 38 = .ok (.imul, 1) := by decide +kernel
theorem dX5_scanNumber_39 : decode cX5_scanNumber 39 = .ok (.aload_n 0, 1) := by decide +kernel
theorem dX5_scanNumber_40 : decode cX5_scanNumber 40 = .ok (.getfield 9, 3) := by decide +kernel
theorem dX5_scanNumber_43 : decode cX5_scanNumber 43 = .ok (.aload_n 0, 1) := by decide +kernel
theorem dX5_scanNumber_44 : decode cX5_scanNumber 44 = .ok (.getfield 19, 3) := by decide +kernel
theorem dX5_scanNumber_47 : decode cX5_scanNumber 47 = .ok (.baload, 1) := by decide +kernel
theorem dX5_scanNumber_48 : decode cX5_scanNumber 48 = .ok (.iadd, 1) := by decide +kernel
theorem dX5_scanNumber_49 : decode cX5_scanNumber 49 = .ok (.bipush 48, 2) := by decide +kernel
theorem dX5_scanNumber_51 : decode cX5_scanNumber 51 = .ok (.isub, 1) := by decide +kernel
theorem dX5_scanNumber_52 : decode cX5_scanNumber 52 = .ok (.putfield 32, 3) := by decide +kernel
theorem dX5_scanNumber_55 : decode cX5_scanNumber 55 = .ok (.aload_n 0, 1) := by decide +kernel
theorem dX5_scanNumber_56 : decode cX5_scanNumber 56 = .ok (.dup, 1) := by decide +kernel
theorem dX5_scanNumber_57 : decode cX5_scanNumber 57 = .ok (.getfield 19, 3) := by decide +kernel
theorem dX5_scanNumber_60 : decode cX5_scanNumber 60 = .ok (.iconst 1, 1) := by decide +kernel
theorem dX5_scanNumber_61 : decode cX5_scanNumber 61 = .ok (.iadd, 1) := by decide +kernel
theorem dX5_scanNumber_62 : decode cX5_scanNumber 62 = .ok (.putfield 19, 3) := by decide +kernel
theorem dX5_scanNumber_65 : decode cX5_scanNumber 65 = .ok (.goto (-60), 3) := by decide +kernel
set_option maxHeartbeats 4000000 in
set_option maxRecDepth 100000 in
theorem c18_X5_scanNumber (l : Launch) (G : va_G) (cI cJ cB cZ : ClassId) (a0 a1 : Nat) (v_tp_1 : Int32) (v_tp_2 : Int32) (v_tp_3 : Int32) (v_tp_4 : Int32) (w_tp_5 : Int64) (v_tp_6 : Int32) (g_tp_bytes : Nat → Int32) (hv_0 : 0 ≤ v_tp_1.toInt) (hv_1 : v_tp_1.toInt ≤ 1300) (hv_2 : 0 ≤ v_tp_2.toInt) (hv_3 : v_tp_2.toInt ≤ 1300) (hT_g_tp_bytes : TA (-128) 127 g_tp_bytes) : Con l G (TY cI cJ cB cZ) yX5_scanNumber cX5_scanNumber 2 none ({ frames := 1, cells := 0, slots := 0, locals := 20 } : Room) [.ref a0] [(a0, .inr (5, [.ref a1, .int v_tp_1, .int v_tp_2, .int v_tp_3, .int v_tp_4, .long w_tp_5, .int v_tp_6])), (a1, .inl (cB, 1300, .inl g_tp_bytes))] (QV G (TY cI cJ cB cZ) (fun u : Int32 × Int32 × Int32 => (0 ≤ u.1.toInt ∧ u.1.toInt ≤ 1300 ∧ 2 ≤ u.2.1.toInt ∧ u.2.1.toInt ≤ 4)) (fun u : Int32 × Int32 × Int32 => [(a0, .inr (5, [.ref a1, .int v_tp_1, .int u.1, .int v_tp_3, .int u.2.1, .long w_tp_5, .int u.2.2])), (a1, .inl (cB, 1300, .inl g_tp_bytes))])) := by
  refine k_met (by decide) (Nat.le_of_ble_eq_true rfl) ?_
  intro p e s m below meth c A ls hC hr hlk hnm hN hZ hK hA hP hD hS hl
  have hl : lv_has ls 2 [(0, .ref a0)] := hl
  generalize hQm : MQ below _ _ s _ _ A = Qm
  generalize (List.toArray _ : Array Value) = args at hC hQm ⊢
  obtain ⟨hx, hb, hml, hown, hts⟩ := id hC
  obtain ⟨H, hH⟩ : ∃ q, q = s.heap := ⟨_, rfl⟩
  obtain ⟨locs, hlo⟩ : ∃ q : List Loc, q = [] := ⟨_, rfl⟩
  have hP : va_P G cl [(a0, .inr (5, [.ref a1, .int v_tp_1, .int v_tp_2, .int v_tp_3, .int v_tp_4, .long w_tp_5, .int v_tp_6])), (a1, .inl (cB, 1300, .inl g_tp_bytes))] H := by rw [hH]; exact hP
  have hS : va_S A s.heap H locs := by rw [hH, hlo]; exact hS
  rw [← hlo]
  rw [← hH]
  refine lv_aload_n hx hb dX5_scanNumber_0 rfl (lv_at hl 0 rfl) ?_
  refine lv_iconst (v := 0) hx hb dX5_scanNumber_1 (by decide) ?_
  refine k_put hC hK hP hD hS iX5 tyX5_ok nmX5 0 6 wf_X5_32 rfl (by decide) rfl rfl rfl rfl (Nat.le_of_ble_eq_true rfl) dX5_scanNumber_2 (fun H locs hP hD hS => ?_)
  have hP : va_P G cl [(a0, .inr (5, [.ref a1, .int v_tp_1, .int v_tp_2, .int v_tp_3, .int v_tp_4, .long w_tp_5, .int 0])), (a1, .inl (cB, 1300, .inl g_tp_bytes))] H := hP
  have hD : va_D A [(a0, .inr (5, [.ref a1, .int v_tp_1, .int v_tp_2, .int v_tp_3, .int v_tp_4, .long w_tp_5, .int 0])), (a1, .inl (cB, 1300, .inl g_tp_bytes))] := hD
  have L_5 : ∀ (n : Nat) (h1 : Int32) (h2 : Int32) (H : Heap) (locs : List Loc) (ls : Array Slot), (0 ≤ h1.toInt ∧ h1.toInt ≤ 1300) → 1300 - h1.toInt < (n : Int) → va_P G cl [(a0, .inr (5, [.ref a1, .int v_tp_1, .int h1, .int v_tp_3, .int v_tp_4, .long w_tp_5, .int h2])), (a1, .inl (cB, 1300, .inl g_tp_bytes))] H → va_D A [(a0, .inr (5, [.ref a1, .int v_tp_1, .int h1, .int v_tp_3, .int v_tp_4, .long w_tp_5, .int h2])), (a1, .inl (cB, 1300, .inl g_tp_bytes))] → va_S A s.heap H locs → lv_has ls 2 [(0, .ref a0)] → W p l e ({ frames := 1, cells := 0, slots := 0, locals := 20 } : Room) s m args below meth c H locs 0 0 Qm (F0 m 5 ls []) := by
    intro n
    induction n with
    | zero => intro h1 h2 H locs ls hv hm; omega
    | succ n ih =>
      intro h1 h2 H locs ls hv hm hP hD hS hl
      refine lv_aload_n hx hb dX5_scanNumber_5 rfl (lv_at hl 0 rfl) ?_
      refine k_get hC hK hP iX5 0 2 wf_X5_19 rfl (by decide) rfl rfl dX5_scanNumber_6 ?_
      refine lv_aload_n hx hb dX5_scanNumber_9 rfl (lv_at hl 0 rfl) ?_
      refine k_get hC hK hP iX5 0 1 wf_X5_15 rfl (by decide) rfl rfl dX5_scanNumber_10 ?_
      refine lv_icmp_ge (tgt := 68) hx hb dX5_scanNumber_13 (by decide) (fun c3 => ?_) (fun c3 => ?_)
      · have dc3 : v_tp_1.toInt ≤ h1.toInt := (fa_le _ _).mp c3
        refine lv_aload_n hx hb dX5_scanNumber_68 rfl (lv_at hl 0 rfl) ?_
        refine k_get hC hK hP iX5 0 2 wf_X5_19 rfl (by decide) rfl rfl dX5_scanNumber_69 ?_
        refine lv_aload_n hx hb dX5_scanNumber_72 rfl (lv_at hl 0 rfl) ?_
        refine k_get hC hK hP iX5 0 1 wf_X5_15 rfl (by decide) rfl rfl dX5_scanNumber_73 ?_
        refine lv_icmp_ge (tgt := 98) hx hb dX5_scanNumber_76 (by decide) (fun c4 => ?_) (fun c4 => ?_)
        · have dc4 : v_tp_1.toInt ≤ h1.toInt := (fa_le _ _).mp c4
          refine lv_iconst (v := 0) hx hb dX5_scanNumber_98 (by decide) ?_
          refine lv_istore_n (lv' := [(1, .int 0), (0, .ref a0)]) hx hb dX5_scanNumber_99 rfl hl (by decide) rfl (fun ls hl => ?_)
          refine lv_aload_n hx hb dX5_scanNumber_100 rfl (lv_at hl 1 rfl) ?_
          refine lv_iload_n hx hb dX5_scanNumber_101 rfl (lv_at hl 0 rfl) ?_
          refine lv_if_ne (tgt := 118) hx hb dX5_scanNumber_102 (by decide) (fun c_ => absurd (by decide +kernel) c_) (fun _ => ?_)
          refine lv_aload_n hx hb dX5_scanNumber_105 rfl (lv_at hl 1 rfl) ?_
          refine k_get hC hK hP iX5 0 2 wf_X5_19 rfl (by decide) rfl rfl dX5_scanNumber_106 ?_
          refine lv_aload_n hx hb dX5_scanNumber_109 rfl (lv_at hl 1 rfl) ?_
          refine k_get hC hK hP iX5 0 3 wf_X5_22 rfl (by decide) rfl rfl dX5_scanNumber_110 ?_
          refine lv_isub hx hb dX5_scanNumber_113 ?_
          refine lv_topi (fun z5 _ => ?_)
          refine lv_iconst (v := 4) hx hb dX5_scanNumber_114 (by decide) ?_
          refine lv_icmp_le (tgt := 122) hx hb dX5_scanNumber_115 (by decide) (fun c6 => ?_) (fun c6 => ?_)
          · have dc6 : z5.toInt ≤ 4 := (fa_le _ _).mp c6; have lbc6_0 := i_lo z5; have ubc6_0 := i_hi z5
            refine lv_iconst (v := 2) hx hb dX5_scanNumber_122 (by decide) ?_
            refine k_put hC hK hP hD hS iX5 tyX5_ok nmX5 0 4 wf_X5_25 rfl (by decide) rfl rfl rfl rfl (Nat.le_of_ble_eq_true rfl) dX5_scanNumber_123 (fun H locs hP hD hS => ?_)
            have hP : va_P G cl [(a0, .inr (5, [.ref a1, .int v_tp_1, .int h1, .int v_tp_3, .int 2, .long w_tp_5, .int h2])), (a1, .inl (cB, 1300, .inl g_tp_bytes))] H := hP
            have hD : va_D A [(a0, .inr (5, [.ref a1, .int v_tp_1, .int h1, .int v_tp_3, .int 2, .long w_tp_5, .int h2])), (a1, .inl (cB, 1300, .inl g_tp_bytes))] := hD
            have l_l7 : (2 : Int32).toInt = 2 := rfl
            rw [← hQm]
            exact k_vret hC hr hlk hK hP hD hS (h1, 2, h2) [0, 1] rfl (by decide +kernel) (show 0 ≤ h1.toInt ∧ h1.toInt ≤ 1300 ∧ 2 ≤ (2 : Int32).toInt ∧ (2 : Int32).toInt ≤ 4 from by omega) (Nat.le_of_ble_eq_true rfl) (Nat.le_of_ble_eq_true rfl) dX5_scanNumber_126
          · have dc6 : 4 < z5.toInt := fa_nle c6; have lbc6_0 := i_lo z5; have ubc6_0 := i_hi z5
            refine lv_iconst (v := 4) hx hb dX5_scanNumber_118 (by decide) ?_
            refine lv_goto (tgt := 123) hx hb dX5_scanNumber_119 (by decide) ?_
            refine k_put hC hK hP hD hS iX5 tyX5_ok nmX5 0 4 wf_X5_25 rfl (by decide) rfl rfl rfl rfl (Nat.le_of_ble_eq_true rfl) dX5_scanNumber_123 (fun H locs hP hD hS => ?_)
            have hP : va_P G cl [(a0, .inr (5, [.ref a1, .int v_tp_1, .int h1, .int v_tp_3, .int 4, .long w_tp_5, .int h2])), (a1, .inl (cB, 1300, .inl g_tp_bytes))] H := hP
            have hD : va_D A [(a0, .inr (5, [.ref a1, .int v_tp_1, .int h1, .int v_tp_3, .int 4, .long w_tp_5, .int h2])), (a1, .inl (cB, 1300, .inl g_tp_bytes))] := hD
            have l_l8 : (4 : Int32).toInt = 4 := rfl
            rw [← hQm]
            exact k_vret hC hr hlk hK hP hD hS (h1, 4, h2) [0, 1] rfl (by decide +kernel) (show 0 ≤ h1.toInt ∧ h1.toInt ≤ 1300 ∧ 2 ≤ (4 : Int32).toInt ∧ (4 : Int32).toInt ≤ 4 from by omega) (Nat.le_of_ble_eq_true rfl) (Nat.le_of_ble_eq_true rfl) dX5_scanNumber_126
        · have dc4 : h1.toInt < v_tp_1.toInt := fa_nle c4
          refine lv_aload_n hx hb dX5_scanNumber_79 rfl (lv_at hl 0 rfl) ?_
          refine k_get hC hK hP iX5 0 0 wf_X5_9 rfl (by decide) rfl rfl dX5_scanNumber_80 ?_
          refine lv_aload_n hx hb dX5_scanNumber_83 rfl (lv_at hl 0 rfl) ?_
          refine k_get hC hK hP iX5 0 2 wf_X5_19 rfl (by decide) rfl rfl dX5_scanNumber_84 ?_
          refine t_bald hC hK hP 1 rfl (by omega) (by omega) hT_g_tp_bytes dX5_scanNumber_87 (fun z9 tz9 => ?_)
          refine k_ci (wr := [(a0, .inr (5, [.ref a1, .int v_tp_1, .int h1, .int v_tp_3, .int v_tp_4, .long w_tp_5, .int h2])), (a1, .inl (cB, 1300, .inl g_tp_bytes))]) (k_rS hC hN hZ hS hA hK hP hD (c16_X5_isLetter l G cI cJ cB cZ z9) [] rfl (by decide +kernel) mi_X5_isLetter st_X5_isLetter wm_X5_42 hl.1 rfl rfl (Nat.le_of_ble_eq_true rfl) ⟨(Nat.le_of_ble_eq_true rfl), (Nat.le_of_ble_eq_true rfl)⟩ dX5_scanNumber_88 ⟨(Nat.le_of_ble_eq_true rfl), (Nat.le_of_ble_eq_true rfl)⟩) hP hD hS hA [] [0, 1] rfl rfl (by decide +kernel) (by decide +kernel) (fun r10 u10 H locs hp hP hD hS => ?_)
          have hp : (0 ≤ r10.toInt ∧ r10.toInt ≤ 1) := hp
          have hP : va_P G cl [(a0, .inr (5, [.ref a1, .int v_tp_1, .int h1, .int v_tp_3, .int v_tp_4, .long w_tp_5, .int h2])), (a1, .inl (cB, 1300, .inl g_tp_bytes))] H := hP
          have hD : va_D A [(a0, .inr (5, [.ref a1, .int v_tp_1, .int h1, .int v_tp_3, .int v_tp_4, .long w_tp_5, .int h2])), (a1, .inl (cB, 1300, .inl g_tp_bytes))] := hD
          have hq10 := hp
          refine lv_if_eq (tgt := 98) hx hb dX5_scanNumber_91 (by decide) (fun c11 => ?_) (fun c11 => ?_)
          · have dc11 : r10.toInt = 0 := (fa_eq _ _).mp c11
            refine lv_iconst (v := 0) hx hb dX5_scanNumber_98 (by decide) ?_
            refine lv_istore_n (lv' := [(1, .int 0), (0, .ref a0)]) hx hb dX5_scanNumber_99 rfl hl (by decide) rfl (fun ls hl => ?_)
            refine lv_aload_n hx hb dX5_scanNumber_100 rfl (lv_at hl 1 rfl) ?_
            refine lv_iload_n hx hb dX5_scanNumber_101 rfl (lv_at hl 0 rfl) ?_
            refine lv_if_ne (tgt := 118) hx hb dX5_scanNumber_102 (by decide) (fun c_ => absurd (by decide +kernel) c_) (fun _ => ?_)
            refine lv_aload_n hx hb dX5_scanNumber_105 rfl (lv_at hl 1 rfl) ?_
            refine k_get hC hK hP iX5 0 2 wf_X5_19 rfl (by decide) rfl rfl dX5_scanNumber_106 ?_
            refine lv_aload_n hx hb dX5_scanNumber_109 rfl (lv_at hl 1 rfl) ?_
            refine k_get hC hK hP iX5 0 3 wf_X5_22 rfl (by decide) rfl rfl dX5_scanNumber_110 ?_
            refine lv_isub hx hb dX5_scanNumber_113 ?_
            refine lv_topi (fun z12 _ => ?_)
            refine lv_iconst (v := 4) hx hb dX5_scanNumber_114 (by decide) ?_
            refine lv_icmp_le (tgt := 122) hx hb dX5_scanNumber_115 (by decide) (fun c13 => ?_) (fun c13 => ?_)
            · have dc13 : z12.toInt ≤ 4 := (fa_le _ _).mp c13; have lbc13_0 := i_lo z12; have ubc13_0 := i_hi z12
              refine lv_iconst (v := 2) hx hb dX5_scanNumber_122 (by decide) ?_
              refine k_put hC hK hP hD hS iX5 tyX5_ok nmX5 0 4 wf_X5_25 rfl (by decide) rfl rfl rfl rfl (Nat.le_of_ble_eq_true rfl) dX5_scanNumber_123 (fun H locs hP hD hS => ?_)
              have hP : va_P G cl [(a0, .inr (5, [.ref a1, .int v_tp_1, .int h1, .int v_tp_3, .int 2, .long w_tp_5, .int h2])), (a1, .inl (cB, 1300, .inl g_tp_bytes))] H := hP
              have hD : va_D A [(a0, .inr (5, [.ref a1, .int v_tp_1, .int h1, .int v_tp_3, .int 2, .long w_tp_5, .int h2])), (a1, .inl (cB, 1300, .inl g_tp_bytes))] := hD
              have l_l14 : (2 : Int32).toInt = 2 := rfl
              rw [← hQm]
              exact k_vret hC hr hlk hK hP hD hS (h1, 2, h2) [0, 1] rfl (by decide +kernel) (show 0 ≤ h1.toInt ∧ h1.toInt ≤ 1300 ∧ 2 ≤ (2 : Int32).toInt ∧ (2 : Int32).toInt ≤ 4 from by omega) (Nat.le_of_ble_eq_true rfl) (Nat.le_of_ble_eq_true rfl) dX5_scanNumber_126
            · have dc13 : 4 < z12.toInt := fa_nle c13; have lbc13_0 := i_lo z12; have ubc13_0 := i_hi z12
              refine lv_iconst (v := 4) hx hb dX5_scanNumber_118 (by decide) ?_
              refine lv_goto (tgt := 123) hx hb dX5_scanNumber_119 (by decide) ?_
              refine k_put hC hK hP hD hS iX5 tyX5_ok nmX5 0 4 wf_X5_25 rfl (by decide) rfl rfl rfl rfl (Nat.le_of_ble_eq_true rfl) dX5_scanNumber_123 (fun H locs hP hD hS => ?_)
              have hP : va_P G cl [(a0, .inr (5, [.ref a1, .int v_tp_1, .int h1, .int v_tp_3, .int 4, .long w_tp_5, .int h2])), (a1, .inl (cB, 1300, .inl g_tp_bytes))] H := hP
              have hD : va_D A [(a0, .inr (5, [.ref a1, .int v_tp_1, .int h1, .int v_tp_3, .int 4, .long w_tp_5, .int h2])), (a1, .inl (cB, 1300, .inl g_tp_bytes))] := hD
              have l_l15 : (4 : Int32).toInt = 4 := rfl
              rw [← hQm]
              exact k_vret hC hr hlk hK hP hD hS (h1, 4, h2) [0, 1] rfl (by decide +kernel) (show 0 ≤ h1.toInt ∧ h1.toInt ≤ 1300 ∧ 2 ≤ (4 : Int32).toInt ∧ (4 : Int32).toInt ≤ 4 from by omega) (Nat.le_of_ble_eq_true rfl) (Nat.le_of_ble_eq_true rfl) dX5_scanNumber_126
          · have dc11 : r10.toInt ≠ 0 := fa_ne c11
            refine lv_iconst (v := 1) hx hb dX5_scanNumber_94 (by decide) ?_
            refine lv_goto (tgt := 99) hx hb dX5_scanNumber_95 (by decide) ?_
            refine lv_istore_n (lv' := [(1, .int 1), (0, .ref a0)]) hx hb dX5_scanNumber_99 rfl hl (by decide) rfl (fun ls hl => ?_)
            refine lv_aload_n hx hb dX5_scanNumber_100 rfl (lv_at hl 1 rfl) ?_
            refine lv_iload_n hx hb dX5_scanNumber_101 rfl (lv_at hl 0 rfl) ?_
            refine lv_if_ne (tgt := 118) hx hb dX5_scanNumber_102 (by decide) (fun _ => ?_) (fun c_ => absurd c_ (by decide +kernel))
            refine lv_iconst (v := 4) hx hb dX5_scanNumber_118 (by decide) ?_
            refine lv_goto (tgt := 123) hx hb dX5_scanNumber_119 (by decide) ?_
            refine k_put hC hK hP hD hS iX5 tyX5_ok nmX5 0 4 wf_X5_25 rfl (by decide) rfl rfl rfl rfl (Nat.le_of_ble_eq_true rfl) dX5_scanNumber_123 (fun H locs hP hD hS => ?_)
            have hP : va_P G cl [(a0, .inr (5, [.ref a1, .int v_tp_1, .int h1, .int v_tp_3, .int 4, .long w_tp_5, .int h2])), (a1, .inl (cB, 1300, .inl g_tp_bytes))] H := hP
            have hD : va_D A [(a0, .inr (5, [.ref a1, .int v_tp_1, .int h1, .int v_tp_3, .int 4, .long w_tp_5, .int h2])), (a1, .inl (cB, 1300, .inl g_tp_bytes))] := hD
            have l_l16 : (4 : Int32).toInt = 4 := rfl
            rw [← hQm]
            exact k_vret hC hr hlk hK hP hD hS (h1, 4, h2) [0, 1] rfl (by decide +kernel) (show 0 ≤ h1.toInt ∧ h1.toInt ≤ 1300 ∧ 2 ≤ (4 : Int32).toInt ∧ (4 : Int32).toInt ≤ 4 from by omega) (Nat.le_of_ble_eq_true rfl) (Nat.le_of_ble_eq_true rfl) dX5_scanNumber_126
      · have dc3 : h1.toInt < v_tp_1.toInt := fa_nle c3
        refine lv_aload_n hx hb dX5_scanNumber_16 rfl (lv_at hl 0 rfl) ?_
        refine k_get hC hK hP iX5 0 0 wf_X5_9 rfl (by decide) rfl rfl dX5_scanNumber_17 ?_
        refine lv_aload_n hx hb dX5_scanNumber_20 rfl (lv_at hl 0 rfl) ?_
        refine k_get hC hK hP iX5 0 2 wf_X5_19 rfl (by decide) rfl rfl dX5_scanNumber_21 ?_
        refine t_bald hC hK hP 1 rfl (by omega) (by omega) hT_g_tp_bytes dX5_scanNumber_24 (fun z17 tz17 => ?_)
        refine k_ci (wr := [(a0, .inr (5, [.ref a1, .int v_tp_1, .int h1, .int v_tp_3, .int v_tp_4, .long w_tp_5, .int h2])), (a1, .inl (cB, 1300, .inl g_tp_bytes))]) (k_rS hC hN hZ hS hA hK hP hD (c17_X5_isDigit l G cI cJ cB cZ z17) [] rfl (by decide +kernel) mi_X5_isDigit st_X5_isDigit wm_X5_48 hl.1 rfl rfl (Nat.le_of_ble_eq_true rfl) ⟨(Nat.le_of_ble_eq_true rfl), (Nat.le_of_ble_eq_true rfl)⟩ dX5_scanNumber_25 ⟨(Nat.le_of_ble_eq_true rfl), (Nat.le_of_ble_eq_true rfl)⟩) hP hD hS hA [] [0, 1] rfl rfl (by decide +kernel) (by decide +kernel) (fun r18 u18 H locs hp hP hD hS => ?_)
        have hp : (0 ≤ r18.toInt ∧ r18.toInt ≤ 1) := hp
        have hP : va_P G cl [(a0, .inr (5, [.ref a1, .int v_tp_1, .int h1, .int v_tp_3, .int v_tp_4, .long w_tp_5, .int h2])), (a1, .inl (cB, 1300, .inl g_tp_bytes))] H := hP
        have hD : va_D A [(a0, .inr (5, [.ref a1, .int v_tp_1, .int h1, .int v_tp_3, .int v_tp_4, .long w_tp_5, .int h2])), (a1, .inl (cB, 1300, .inl g_tp_bytes))] := hD
        have hq18 := hp
        refine lv_if_eq (tgt := 68) hx hb dX5_scanNumber_28 (by decide) (fun c19 => ?_) (fun c19 => ?_)
        · have dc19 : r18.toInt = 0 := (fa_eq _ _).mp c19
          refine lv_aload_n hx hb dX5_scanNumber_68 rfl (lv_at hl 0 rfl) ?_
          refine k_get hC hK hP iX5 0 2 wf_X5_19 rfl (by decide) rfl rfl dX5_scanNumber_69 ?_
          refine lv_aload_n hx hb dX5_scanNumber_72 rfl (lv_at hl 0 rfl) ?_
          refine k_get hC hK hP iX5 0 1 wf_X5_15 rfl (by decide) rfl rfl dX5_scanNumber_73 ?_
          refine lv_icmp_ge (tgt := 98) hx hb dX5_scanNumber_76 (by decide) (fun c20 => ?_) (fun c20 => ?_)
          · have dc20 : v_tp_1.toInt ≤ h1.toInt := (fa_le _ _).mp c20
            refine lv_iconst (v := 0) hx hb dX5_scanNumber_98 (by decide) ?_
            refine lv_istore_n (lv' := [(1, .int 0), (0, .ref a0)]) hx hb dX5_scanNumber_99 rfl hl (by decide) rfl (fun ls hl => ?_)
            refine lv_aload_n hx hb dX5_scanNumber_100 rfl (lv_at hl 1 rfl) ?_
            refine lv_iload_n hx hb dX5_scanNumber_101 rfl (lv_at hl 0 rfl) ?_
            refine lv_if_ne (tgt := 118) hx hb dX5_scanNumber_102 (by decide) (fun c_ => absurd (by decide +kernel) c_) (fun _ => ?_)
            refine lv_aload_n hx hb dX5_scanNumber_105 rfl (lv_at hl 1 rfl) ?_
            refine k_get hC hK hP iX5 0 2 wf_X5_19 rfl (by decide) rfl rfl dX5_scanNumber_106 ?_
            refine lv_aload_n hx hb dX5_scanNumber_109 rfl (lv_at hl 1 rfl) ?_
            refine k_get hC hK hP iX5 0 3 wf_X5_22 rfl (by decide) rfl rfl dX5_scanNumber_110 ?_
            refine lv_isub hx hb dX5_scanNumber_113 ?_
            refine lv_topi (fun z21 _ => ?_)
            refine lv_iconst (v := 4) hx hb dX5_scanNumber_114 (by decide) ?_
            refine lv_icmp_le (tgt := 122) hx hb dX5_scanNumber_115 (by decide) (fun c22 => ?_) (fun c22 => ?_)
            · have dc22 : z21.toInt ≤ 4 := (fa_le _ _).mp c22; have lbc22_0 := i_lo z21; have ubc22_0 := i_hi z21
              refine lv_iconst (v := 2) hx hb dX5_scanNumber_122 (by decide) ?_
              refine k_put hC hK hP hD hS iX5 tyX5_ok nmX5 0 4 wf_X5_25 rfl (by decide) rfl rfl rfl rfl (Nat.le_of_ble_eq_true rfl) dX5_scanNumber_123 (fun H locs hP hD hS => ?_)
              have hP : va_P G cl [(a0, .inr (5, [.ref a1, .int v_tp_1, .int h1, .int v_tp_3, .int 2, .long w_tp_5, .int h2])), (a1, .inl (cB, 1300, .inl g_tp_bytes))] H := hP
              have hD : va_D A [(a0, .inr (5, [.ref a1, .int v_tp_1, .int h1, .int v_tp_3, .int 2, .long w_tp_5, .int h2])), (a1, .inl (cB, 1300, .inl g_tp_bytes))] := hD
              have l_l23 : (2 : Int32).toInt = 2 := rfl
              rw [← hQm]
              exact k_vret hC hr hlk hK hP hD hS (h1, 2, h2) [0, 1] rfl (by decide +kernel) (show 0 ≤ h1.toInt ∧ h1.toInt ≤ 1300 ∧ 2 ≤ (2 : Int32).toInt ∧ (2 : Int32).toInt ≤ 4 from by omega) (Nat.le_of_ble_eq_true rfl) (Nat.le_of_ble_eq_true rfl) dX5_scanNumber_126
            · have dc22 : 4 < z21.toInt := fa_nle c22; have lbc22_0 := i_lo z21; have ubc22_0 := i_hi z21
              refine lv_iconst (v := 4) hx hb dX5_scanNumber_118 (by decide) ?_
              refine lv_goto (tgt := 123) hx hb dX5_scanNumber_119 (by decide) ?_
              refine k_put hC hK hP hD hS iX5 tyX5_ok nmX5 0 4 wf_X5_25 rfl (by decide) rfl rfl rfl rfl (Nat.le_of_ble_eq_true rfl) dX5_scanNumber_123 (fun H locs hP hD hS => ?_)
              have hP : va_P G cl [(a0, .inr (5, [.ref a1, .int v_tp_1, .int h1, .int v_tp_3, .int 4, .long w_tp_5, .int h2])), (a1, .inl (cB, 1300, .inl g_tp_bytes))] H := hP
              have hD : va_D A [(a0, .inr (5, [.ref a1, .int v_tp_1, .int h1, .int v_tp_3, .int 4, .long w_tp_5, .int h2])), (a1, .inl (cB, 1300, .inl g_tp_bytes))] := hD
              have l_l24 : (4 : Int32).toInt = 4 := rfl
              rw [← hQm]
              exact k_vret hC hr hlk hK hP hD hS (h1, 4, h2) [0, 1] rfl (by decide +kernel) (show 0 ≤ h1.toInt ∧ h1.toInt ≤ 1300 ∧ 2 ≤ (4 : Int32).toInt ∧ (4 : Int32).toInt ≤ 4 from by omega) (Nat.le_of_ble_eq_true rfl) (Nat.le_of_ble_eq_true rfl) dX5_scanNumber_126
          · have dc20 : h1.toInt < v_tp_1.toInt := fa_nle c20
            refine lv_aload_n hx hb dX5_scanNumber_79 rfl (lv_at hl 0 rfl) ?_
            refine k_get hC hK hP iX5 0 0 wf_X5_9 rfl (by decide) rfl rfl dX5_scanNumber_80 ?_
            refine lv_aload_n hx hb dX5_scanNumber_83 rfl (lv_at hl 0 rfl) ?_
            refine k_get hC hK hP iX5 0 2 wf_X5_19 rfl (by decide) rfl rfl dX5_scanNumber_84 ?_
            refine t_bald hC hK hP 1 rfl (by omega) (by omega) hT_g_tp_bytes dX5_scanNumber_87 (fun z25 tz25 => ?_)
            refine k_ci (wr := [(a0, .inr (5, [.ref a1, .int v_tp_1, .int h1, .int v_tp_3, .int v_tp_4, .long w_tp_5, .int h2])), (a1, .inl (cB, 1300, .inl g_tp_bytes))]) (k_rS hC hN hZ hS hA hK hP hD (c16_X5_isLetter l G cI cJ cB cZ z25) [] rfl (by decide +kernel) mi_X5_isLetter st_X5_isLetter wm_X5_42 hl.1 rfl rfl (Nat.le_of_ble_eq_true rfl) ⟨(Nat.le_of_ble_eq_true rfl), (Nat.le_of_ble_eq_true rfl)⟩ dX5_scanNumber_88 ⟨(Nat.le_of_ble_eq_true rfl), (Nat.le_of_ble_eq_true rfl)⟩) hP hD hS hA [] [0, 1] rfl rfl (by decide +kernel) (by decide +kernel) (fun r26 u26 H locs hp hP hD hS => ?_)
            have hp : (0 ≤ r26.toInt ∧ r26.toInt ≤ 1) := hp
            have hP : va_P G cl [(a0, .inr (5, [.ref a1, .int v_tp_1, .int h1, .int v_tp_3, .int v_tp_4, .long w_tp_5, .int h2])), (a1, .inl (cB, 1300, .inl g_tp_bytes))] H := hP
            have hD : va_D A [(a0, .inr (5, [.ref a1, .int v_tp_1, .int h1, .int v_tp_3, .int v_tp_4, .long w_tp_5, .int h2])), (a1, .inl (cB, 1300, .inl g_tp_bytes))] := hD
            have hq26 := hp
            refine lv_if_eq (tgt := 98) hx hb dX5_scanNumber_91 (by decide) (fun c27 => ?_) (fun c27 => ?_)
            · have dc27 : r26.toInt = 0 := (fa_eq _ _).mp c27
              refine lv_iconst (v := 0) hx hb dX5_scanNumber_98 (by decide) ?_
              refine lv_istore_n (lv' := [(1, .int 0), (0, .ref a0)]) hx hb dX5_scanNumber_99 rfl hl (by decide) rfl (fun ls hl => ?_)
              refine lv_aload_n hx hb dX5_scanNumber_100 rfl (lv_at hl 1 rfl) ?_
              refine lv_iload_n hx hb dX5_scanNumber_101 rfl (lv_at hl 0 rfl) ?_
              refine lv_if_ne (tgt := 118) hx hb dX5_scanNumber_102 (by decide) (fun c_ => absurd (by decide +kernel) c_) (fun _ => ?_)
              refine lv_aload_n hx hb dX5_scanNumber_105 rfl (lv_at hl 1 rfl) ?_
              refine k_get hC hK hP iX5 0 2 wf_X5_19 rfl (by decide) rfl rfl dX5_scanNumber_106 ?_
              refine lv_aload_n hx hb dX5_scanNumber_109 rfl (lv_at hl 1 rfl) ?_
              refine k_get hC hK hP iX5 0 3 wf_X5_22 rfl (by decide) rfl rfl dX5_scanNumber_110 ?_
              refine lv_isub hx hb dX5_scanNumber_113 ?_
              refine lv_topi (fun z28 _ => ?_)
              refine lv_iconst (v := 4) hx hb dX5_scanNumber_114 (by decide) ?_
              refine lv_icmp_le (tgt := 122) hx hb dX5_scanNumber_115 (by decide) (fun c29 => ?_) (fun c29 => ?_)
              · have dc29 : z28.toInt ≤ 4 := (fa_le _ _).mp c29; have lbc29_0 := i_lo z28; have ubc29_0 := i_hi z28
                refine lv_iconst (v := 2) hx hb dX5_scanNumber_122 (by decide) ?_
                refine k_put hC hK hP hD hS iX5 tyX5_ok nmX5 0 4 wf_X5_25 rfl (by decide) rfl rfl rfl rfl (Nat.le_of_ble_eq_true rfl) dX5_scanNumber_123 (fun H locs hP hD hS => ?_)
                have hP : va_P G cl [(a0, .inr (5, [.ref a1, .int v_tp_1, .int h1, .int v_tp_3, .int 2, .long w_tp_5, .int h2])), (a1, .inl (cB, 1300, .inl g_tp_bytes))] H := hP
                have hD : va_D A [(a0, .inr (5, [.ref a1, .int v_tp_1, .int h1, .int v_tp_3, .int 2, .long w_tp_5, .int h2])), (a1, .inl (cB, 1300, .inl g_tp_bytes))] := hD
                have l_l30 : (2 : Int32).toInt = 2 := rfl
                rw [← hQm]
                exact k_vret hC hr hlk hK hP hD hS (h1, 2, h2) [0, 1] rfl (by decide +kernel) (show 0 ≤ h1.toInt ∧ h1.toInt ≤ 1300 ∧ 2 ≤ (2 : Int32).toInt ∧ (2 : Int32).toInt ≤ 4 from by omega) (Nat.le_of_ble_eq_true rfl) (Nat.le_of_ble_eq_true rfl) dX5_scanNumber_126
              · have dc29 : 4 < z28.toInt := fa_nle c29; have lbc29_0 := i_lo z28; have ubc29_0 := i_hi z28
                refine lv_iconst (v := 4) hx hb dX5_scanNumber_118 (by decide) ?_
                refine lv_goto (tgt := 123) hx hb dX5_scanNumber_119 (by decide) ?_
                refine k_put hC hK hP hD hS iX5 tyX5_ok nmX5 0 4 wf_X5_25 rfl (by decide) rfl rfl rfl rfl (Nat.le_of_ble_eq_true rfl) dX5_scanNumber_123 (fun H locs hP hD hS => ?_)
                have hP : va_P G cl [(a0, .inr (5, [.ref a1, .int v_tp_1, .int h1, .int v_tp_3, .int 4, .long w_tp_5, .int h2])), (a1, .inl (cB, 1300, .inl g_tp_bytes))] H := hP
                have hD : va_D A [(a0, .inr (5, [.ref a1, .int v_tp_1, .int h1, .int v_tp_3, .int 4, .long w_tp_5, .int h2])), (a1, .inl (cB, 1300, .inl g_tp_bytes))] := hD
                have l_l31 : (4 : Int32).toInt = 4 := rfl
                rw [← hQm]
                exact k_vret hC hr hlk hK hP hD hS (h1, 4, h2) [0, 1] rfl (by decide +kernel) (show 0 ≤ h1.toInt ∧ h1.toInt ≤ 1300 ∧ 2 ≤ (4 : Int32).toInt ∧ (4 : Int32).toInt ≤ 4 from by omega) (Nat.le_of_ble_eq_true rfl) (Nat.le_of_ble_eq_true rfl) dX5_scanNumber_126
            · have dc27 : r26.toInt ≠ 0 := fa_ne c27
              refine lv_iconst (v := 1) hx hb dX5_scanNumber_94 (by decide) ?_
              refine lv_goto (tgt := 99) hx hb dX5_scanNumber_95 (by decide) ?_
              refine lv_istore_n (lv' := [(1, .int 1), (0, .ref a0)]) hx hb dX5_scanNumber_99 rfl hl (by decide) rfl (fun ls hl => ?_)
              refine lv_aload_n hx hb dX5_scanNumber_100 rfl (lv_at hl 1 rfl) ?_
              refine lv_iload_n hx hb dX5_scanNumber_101 rfl (lv_at hl 0 rfl) ?_
              refine lv_if_ne (tgt := 118) hx hb dX5_scanNumber_102 (by decide) (fun _ => ?_) (fun c_ => absurd c_ (by decide +kernel))
              refine lv_iconst (v := 4) hx hb dX5_scanNumber_118 (by decide) ?_
              refine lv_goto (tgt := 123) hx hb dX5_scanNumber_119 (by decide) ?_
              refine k_put hC hK hP hD hS iX5 tyX5_ok nmX5 0 4 wf_X5_25 rfl (by decide) rfl rfl rfl rfl (Nat.le_of_ble_eq_true rfl) dX5_scanNumber_123 (fun H locs hP hD hS => ?_)
              have hP : va_P G cl [(a0, .inr (5, [.ref a1, .int v_tp_1, .int h1, .int v_tp_3, .int 4, .long w_tp_5, .int h2])), (a1, .inl (cB, 1300, .inl g_tp_bytes))] H := hP
              have hD : va_D A [(a0, .inr (5, [.ref a1, .int v_tp_1, .int h1, .int v_tp_3, .int 4, .long w_tp_5, .int h2])), (a1, .inl (cB, 1300, .inl g_tp_bytes))] := hD
              have l_l32 : (4 : Int32).toInt = 4 := rfl
              rw [← hQm]
              exact k_vret hC hr hlk hK hP hD hS (h1, 4, h2) [0, 1] rfl (by decide +kernel) (show 0 ≤ h1.toInt ∧ h1.toInt ≤ 1300 ∧ 2 ≤ (4 : Int32).toInt ∧ (4 : Int32).toInt ≤ 4 from by omega) (Nat.le_of_ble_eq_true rfl) (Nat.le_of_ble_eq_true rfl) dX5_scanNumber_126
        · have dc19 : r18.toInt ≠ 0 := fa_ne c19
          refine lv_aload_n hx hb dX5_scanNumber_31 rfl (lv_at hl 0 rfl) ?_
          refine lv_aload_n hx hb dX5_scanNumber_32 rfl (lv_at hl 0 rfl) ?_
          refine k_get hC hK hP iX5 0 6 wf_X5_32 rfl (by decide) rfl rfl dX5_scanNumber_33 ?_
          refine lv_bipush (v := 10) hx hb dX5_scanNumber_36 (by decide) ?_
          refine lv_imul hx hb dX5_scanNumber_38 ?_
          refine lv_topi (fun z33 _ => ?_)
          refine lv_aload_n hx hb dX5_scanNumber_39 rfl (lv_at hl 0 rfl) ?_
          refine k_get hC hK hP iX5 0 0 wf_X5_9 rfl (by decide) rfl rfl dX5_scanNumber_40 ?_
          refine lv_aload_n hx hb dX5_scanNumber_43 rfl (lv_at hl 0 rfl) ?_
          refine k_get hC hK hP iX5 0 2 wf_X5_19 rfl (by decide) rfl rfl dX5_scanNumber_44 ?_
          refine t_bald hC hK hP 1 rfl (by omega) (by omega) hT_g_tp_bytes dX5_scanNumber_47 (fun z34 tz34 => ?_)
          refine lv_iadd hx hb dX5_scanNumber_48 ?_
          refine lv_topi (fun z35 _ => ?_)
          refine lv_bipush (v := 48) hx hb dX5_scanNumber_49 (by decide) ?_
          refine lv_isub hx hb dX5_scanNumber_51 ?_
          refine lv_topi (fun z36 _ => ?_)
          refine k_put hC hK hP hD hS iX5 tyX5_ok nmX5 0 6 wf_X5_32 rfl (by decide) rfl rfl rfl rfl (Nat.le_of_ble_eq_true rfl) dX5_scanNumber_52 (fun H locs hP hD hS => ?_)
          have hP : va_P G cl [(a0, .inr (5, [.ref a1, .int v_tp_1, .int h1, .int v_tp_3, .int v_tp_4, .long w_tp_5, .int z36])), (a1, .inl (cB, 1300, .inl g_tp_bytes))] H := hP
          have hD : va_D A [(a0, .inr (5, [.ref a1, .int v_tp_1, .int h1, .int v_tp_3, .int v_tp_4, .long w_tp_5, .int z36])), (a1, .inl (cB, 1300, .inl g_tp_bytes))] := hD
          refine lv_aload_n hx hb dX5_scanNumber_55 rfl (lv_at hl 0 rfl) ?_
          refine lv_dup hx hb dX5_scanNumber_56 rfl ?_
          refine k_get hC hK hP iX5 0 2 wf_X5_19 rfl (by decide) rfl rfl dX5_scanNumber_57 ?_
          refine lv_iconst (v := 1) hx hb dX5_scanNumber_60 (by decide) ?_
          refine lv_iadd hx hb dX5_scanNumber_61 ?_
          refine t_i (fun q => q.toInt = h1.toInt + 1) (add_i (by show (-2147483648 : Int) ≤ h1.toInt + 1; omega) (by show h1.toInt + 1 ≤ (2147483647 : Int); omega)) (fun z37 tz37 => ?_)
          refine k_put hC hK hP hD hS iX5 tyX5_ok nmX5 0 2 wf_X5_19 rfl (by decide) rfl rfl rfl rfl (Nat.le_of_ble_eq_true rfl) dX5_scanNumber_62 (fun H locs hP hD hS => ?_)
          have hP : va_P G cl [(a0, .inr (5, [.ref a1, .int v_tp_1, .int z37, .int v_tp_3, .int v_tp_4, .long w_tp_5, .int z36])), (a1, .inl (cB, 1300, .inl g_tp_bytes))] H := hP
          have hD : va_D A [(a0, .inr (5, [.ref a1, .int v_tp_1, .int z37, .int v_tp_3, .int v_tp_4, .long w_tp_5, .int z36])), (a1, .inl (cB, 1300, .inl g_tp_bytes))] := hD
          refine lv_goto (tgt := 5) hx hb dX5_scanNumber_65 (by decide) ?_
          exact ih  z37 z36 H locs ls (by omega) (by omega) (hP.subm [0, 1] rfl) (hD.sub [0, 1] (by decide +kernel) rfl) hS (lv_sub hl [0] rfl)
  have l_l38 : (0 : Int32).toInt = 0 := rfl
  exact L_5 1301 v_tp_2 0 H locs ls (by omega) (by omega) (hP.subm [0, 1] rfl) (hD.sub [0, 1] (by decide +kernel) rfl) hS (lv_sub hl [0] rfl)
theorem dX5_scanWord_0 : decode cX5_scanWord 0 = .ok (.aload_n 0, 1) := by decide +kernel
theorem dX5_scanWord_1 : decode cX5_scanWord 1 = .ok (.lconst 0, 1) := by decide +kernel
theorem dX5_scanWord_2 : decode cX5_scanWord 2 = .ok (.putfield 28, 3) := by decide +kernel
set_option maxRecDepth 100000 in
theorem wf_X5_28 : Cond.fieldLink RX5 28 "StoneTrust$Tape" "word" "J" ∈ gw := gm (List.mem_of_getElem? (i := 317) (by decide +kernel)) rfl
theorem dX5_scanWord_5 : decode cX5_scanWord 5 = .ok (.aload_n 0, 1) := by decide +kernel
theorem dX5_scanWord_6 : decode cX5_scanWord 6 = .ok (.getfield 19, 3) := by decide +kernel
theorem dX5_scanWord_9 : decode cX5_scanWord 9 = .ok (.aload_n 0, 1) := by decide +kernel
theorem dX5_scanWord_10 : decode cX5_scanWord 10 = .ok (.getfield 15, 3) := by decide +kernel
theorem dX5_scanWord_13 : decode cX5_scanWord 13 = .ok (.if_icmp .ge 53, 3) := by decide +kernel
theorem dX5_scanWord_66 : decode cX5_scanWord 66 = .ok (.aload_n 0, 1) := by decide +kernel
theorem dX5_scanWord_67 : decode cX5_scanWord 67 = .ok (.aload_n 0, 1) := by decide +kernel
theorem dX5_scanWord_68 : decode cX5_scanWord 68 = .ok (.getfield 19, 3) := by decide +kernel
theorem dX5_scanWord_71 : decode cX5_scanWord 71 = .ok (.aload_n 0, 1) := by decide +kernel
theorem dX5_scanWord_72 : decode cX5_scanWord 72 = .ok (.getfield 22, 3) := by decide +kernel
theorem dX5_scanWord_75 : decode cX5_scanWord 75 = .ok (.isub, 1) := by decide +kernel
theorem dX5_scanWord_76 : decode cX5_scanWord 76 = .ok (.bipush 8, 2) := by decide +kernel
theorem dX5_scanWord_78 : decode cX5_scanWord 78 = .ok (.if_icmp .le 7, 3) := by decide +kernel
theorem dX5_scanWord_85 : decode cX5_scanWord 85 = .ok (.iconst 1, 1) := by decide +kernel
theorem dX5_scanWord_86 : decode cX5_scanWord 86 = .ok (.putfield 25, 3) := by decide +kernel
theorem dX5_scanWord_89 : decode cX5_scanWord 89 = .ok (.return_, 1) := by decide +kernel
theorem dX5_scanWord_81 : decode cX5_scanWord 81 = .ok (.iconst 4, 1) := by decide +kernel
theorem dX5_scanWord_82 : decode cX5_scanWord 82 = .ok (.goto 4, 3) := by decide +kernel
theorem dX5_scanWord_16 : decode cX5_scanWord 16 = .ok (.aload_n 0, 1) := by decide +kernel
theorem dX5_scanWord_17 : decode cX5_scanWord 17 = .ok (.getfield 9, 3) := by decide +kernel
theorem dX5_scanWord_20 : decode cX5_scanWord 20 = .ok (.aload_n 0, 1) := by decide +kernel
theorem dX5_scanWord_21 : decode cX5_scanWord 21 = .ok (.getfield 19, 3) := by decide +kernel
theorem dX5_scanWord_24 : decode cX5_scanWord 24 = .ok (.baload, 1) := by decide +kernel
theorem dX5_scanWord_25 : decode cX5_scanWord 25 = .ok (.invokestatic 42, 3) := by decide +kernel
theorem dX5_scanWord_28 : decode cX5_scanWord 28 = .ok (.ifCond .eq 38, 3) := by decide +kernel
theorem dX5_scanWord_31 : decode cX5_scanWord 31 = .ok (.aload_n 0, 1) := by decide +kernel
theorem dX5_scanWord_32 : decode cX5_scanWord 32 = .ok (.aload_n 0, 1) := by decide +kernel
theorem dX5_scanWord_33 : decode cX5_scanWord 33 = .ok (.getfield 28, 3) := by decide +kernel
theorem dX5_scanWord_36 : decode cX5_scanWord 36 = .ok (.bipush 8, 2) := by decide +kernel
theorem dX5_scanWord_38 : decode cX5_scanWord 38 = .ok (.lshl, 1) := by decide +kernel
theorem dX5_scanWord_39 : decode cX5_scanWord 39 = .ok (.aload_n 0, 1) := by decide +kernel
theorem dX5_scanWord_40 : decode cX5_scanWord 40 = .ok (.getfield 9, 3) := by decide +kernel
theorem dX5_scanWord_43 : decode cX5_scanWord 43 = .ok (.aload_n 0, 1) := by decide +kernel
theorem dX5_scanWord_44 : decode cX5_scanWord 44 = .ok (.getfield 19, 3) := by decide +kernel
theorem dX5_scanWord_47 : decode cX5_scanWord 47 = .ok (.baload, 1) := by decide +kernel
theorem dX5_scanWord_48 : decode cX5_scanWord 48 = .ok (.i2l, 1) := by decide +kernel
theorem dX5_scanWord_49 : decode cX5_scanWord 49 = .ok (.lor, 1) := by decide +kernel
theorem dX5_scanWord_50 : decode cX5_scanWord 50 = .ok (.putfield 28, 3) := by decide +kernel
theorem dX5_scanWord_53 : decode cX5_scanWord 53 = .ok (.aload_n 0, 1) := by decide +kernel
theorem dX5_scanWord_54 : decode cX5_scanWord 54 = .ok (.dup, 1) := by decide +kernel
theorem dX5_scanWord_55 : decode cX5_scanWord 55 = .ok (.getfield 19, 3) := by decide +kernel
theorem dX5_scanWord_58 : decode cX5_scanWord 58 = .ok (.iconst 1, 1) := by decide +kernel
theorem dX5_scanWord_59 : decode cX5_scanWord 59 = .ok (.iadd, 1) := by decide +kernel
theorem dX5_scanWord_60 : decode cX5_scanWord 60 = .ok (.putfield 19, 3) := by decide +kernel
theorem dX5_scanWord_63 : decode cX5_scanWord 63 = .ok (.goto (-58), 3) := by decide +kernel
set_option maxHeartbeats 4000000 in
set_option maxRecDepth 100000 in
theorem c19_X5_scanWord (l : Launch) (G : va_G) (cI cJ cB cZ : ClassId) (a0 a1 : Nat) (v_tp_1 : Int32) (v_tp_2 : Int32) (v_tp_3 : Int32) (v_tp_4 : Int32) (w_tp_5 : Int64) (v_tp_6 : Int32) (g_tp_bytes : Nat → Int32) (hv_0 : 0 ≤ v_tp_1.toInt) (hv_1 : v_tp_1.toInt ≤ 1300) (hv_2 : 0 ≤ v_tp_2.toInt) (hv_3 : v_tp_2.toInt ≤ 1300) (hT_g_tp_bytes : TA (-128) 127 g_tp_bytes) : Con l G (TY cI cJ cB cZ) yX5_scanWord cX5_scanWord 1 none ({ frames := 1, cells := 0, slots := 0, locals := 20 } : Room) [.ref a0] [(a0, .inr (5, [.ref a1, .int v_tp_1, .int v_tp_2, .int v_tp_3, .int v_tp_4, .long w_tp_5, .int v_tp_6])), (a1, .inl (cB, 1300, .inl g_tp_bytes))] (QV G (TY cI cJ cB cZ) (fun u : Int32 × Int32 × Int64 => (0 ≤ u.1.toInt ∧ u.1.toInt ≤ 1300 ∧ 1 ≤ u.2.1.toInt ∧ u.2.1.toInt ≤ 4)) (fun u : Int32 × Int32 × Int64 => [(a0, .inr (5, [.ref a1, .int v_tp_1, .int u.1, .int v_tp_3, .int u.2.1, .long u.2.2, .int v_tp_6])), (a1, .inl (cB, 1300, .inl g_tp_bytes))])) := by
  refine k_met (by decide) (Nat.le_of_ble_eq_true rfl) ?_
  intro p e s m below meth c A ls hC hr hlk hnm hN hZ hK hA hP hD hS hl
  have hl : lv_has ls 1 [(0, .ref a0)] := hl
  generalize hQm : MQ below _ _ s _ _ A = Qm
  generalize (List.toArray _ : Array Value) = args at hC hQm ⊢
  obtain ⟨hx, hb, hml, hown, hts⟩ := id hC
  obtain ⟨H, hH⟩ : ∃ q, q = s.heap := ⟨_, rfl⟩
  obtain ⟨locs, hlo⟩ : ∃ q : List Loc, q = [] := ⟨_, rfl⟩
  have hP : va_P G cl [(a0, .inr (5, [.ref a1, .int v_tp_1, .int v_tp_2, .int v_tp_3, .int v_tp_4, .long w_tp_5, .int v_tp_6])), (a1, .inl (cB, 1300, .inl g_tp_bytes))] H := by rw [hH]; exact hP
  have hS : va_S A s.heap H locs := by rw [hH, hlo]; exact hS
  rw [← hlo]
  rw [← hH]
  refine lv_aload_n hx hb dX5_scanWord_0 rfl (lv_at hl 0 rfl) ?_
  refine lv_lconst (v := 0) hx hb dX5_scanWord_1 (by decide) ?_
  refine k_put hC hK hP hD hS iX5 tyX5_ok nmX5 0 5 wf_X5_28 rfl (by decide) rfl rfl rfl rfl (Nat.le_of_ble_eq_true rfl) dX5_scanWord_2 (fun H locs hP hD hS => ?_)
  have hP : va_P G cl [(a0, .inr (5, [.ref a1, .int v_tp_1, .int v_tp_2, .int v_tp_3, .int v_tp_4, .long 0, .int v_tp_6])), (a1, .inl (cB, 1300, .inl g_tp_bytes))] H := hP
  have hD : va_D A [(a0, .inr (5, [.ref a1, .int v_tp_1, .int v_tp_2, .int v_tp_3, .int v_tp_4, .long 0, .int v_tp_6])), (a1, .inl (cB, 1300, .inl g_tp_bytes))] := hD
  have L_5 : ∀ (n : Nat) (h1 : Int32) (y2 : Int64) (H : Heap) (locs : List Loc) (ls : Array Slot), (0 ≤ h1.toInt ∧ h1.toInt ≤ 1300) → 1300 - h1.toInt < (n : Int) → va_P G cl [(a0, .inr (5, [.ref a1, .int v_tp_1, .int h1, .int v_tp_3, .int v_tp_4, .long y2, .int v_tp_6])), (a1, .inl (cB, 1300, .inl g_tp_bytes))] H → va_D A [(a0, .inr (5, [.ref a1, .int v_tp_1, .int h1, .int v_tp_3, .int v_tp_4, .long y2, .int v_tp_6])), (a1, .inl (cB, 1300, .inl g_tp_bytes))] → va_S A s.heap H locs → lv_has ls 1 [(0, .ref a0)] → W p l e ({ frames := 1, cells := 0, slots := 0, locals := 20 } : Room) s m args below meth c H locs 0 0 Qm (F0 m 5 ls []) := by
    intro n
    induction n with
    | zero => intro h1 y2 H locs ls hv hm; omega
    | succ n ih =>
      intro h1 y2 H locs ls hv hm hP hD hS hl
      refine lv_aload_n hx hb dX5_scanWord_5 rfl (lv_at hl 0 rfl) ?_
      refine k_get hC hK hP iX5 0 2 wf_X5_19 rfl (by decide) rfl rfl dX5_scanWord_6 ?_
      refine lv_aload_n hx hb dX5_scanWord_9 rfl (lv_at hl 0 rfl) ?_
      refine k_get hC hK hP iX5 0 1 wf_X5_15 rfl (by decide) rfl rfl dX5_scanWord_10 ?_
      refine lv_icmp_ge (tgt := 66) hx hb dX5_scanWord_13 (by decide) (fun c3 => ?_) (fun c3 => ?_)
      · have dc3 : v_tp_1.toInt ≤ h1.toInt := (fa_le _ _).mp c3
        refine lv_aload_n hx hb dX5_scanWord_66 rfl (lv_at hl 0 rfl) ?_
        refine lv_aload_n hx hb dX5_scanWord_67 rfl (lv_at hl 0 rfl) ?_
        refine k_get hC hK hP iX5 0 2 wf_X5_19 rfl (by decide) rfl rfl dX5_scanWord_68 ?_
        refine lv_aload_n hx hb dX5_scanWord_71 rfl (lv_at hl 0 rfl) ?_
        refine k_get hC hK hP iX5 0 3 wf_X5_22 rfl (by decide) rfl rfl dX5_scanWord_72 ?_
        refine lv_isub hx hb dX5_scanWord_75 ?_
        refine lv_topi (fun z4 _ => ?_)
        refine lv_bipush (v := 8) hx hb dX5_scanWord_76 (by decide) ?_
        refine lv_icmp_le (tgt := 85) hx hb dX5_scanWord_78 (by decide) (fun c5 => ?_) (fun c5 => ?_)
        · have dc5 : z4.toInt ≤ 8 := (fa_le _ _).mp c5; have lbc5_0 := i_lo z4; have ubc5_0 := i_hi z4
          refine lv_iconst (v := 1) hx hb dX5_scanWord_85 (by decide) ?_
          refine k_put hC hK hP hD hS iX5 tyX5_ok nmX5 0 4 wf_X5_25 rfl (by decide) rfl rfl rfl rfl (Nat.le_of_ble_eq_true rfl) dX5_scanWord_86 (fun H locs hP hD hS => ?_)
          have hP : va_P G cl [(a0, .inr (5, [.ref a1, .int v_tp_1, .int h1, .int v_tp_3, .int 1, .long y2, .int v_tp_6])), (a1, .inl (cB, 1300, .inl g_tp_bytes))] H := hP
          have hD : va_D A [(a0, .inr (5, [.ref a1, .int v_tp_1, .int h1, .int v_tp_3, .int 1, .long y2, .int v_tp_6])), (a1, .inl (cB, 1300, .inl g_tp_bytes))] := hD
          have l_l6 : (1 : Int32).toInt = 1 := rfl
          rw [← hQm]
          exact k_vret hC hr hlk hK hP hD hS (h1, 1, y2) [0, 1] rfl (by decide +kernel) (show 0 ≤ h1.toInt ∧ h1.toInt ≤ 1300 ∧ 1 ≤ (1 : Int32).toInt ∧ (1 : Int32).toInt ≤ 4 from by omega) (Nat.le_of_ble_eq_true rfl) (Nat.le_of_ble_eq_true rfl) dX5_scanWord_89
        · have dc5 : 8 < z4.toInt := fa_nle c5; have lbc5_0 := i_lo z4; have ubc5_0 := i_hi z4
          refine lv_iconst (v := 4) hx hb dX5_scanWord_81 (by decide) ?_
          refine lv_goto (tgt := 86) hx hb dX5_scanWord_82 (by decide) ?_
          refine k_put hC hK hP hD hS iX5 tyX5_ok nmX5 0 4 wf_X5_25 rfl (by decide) rfl rfl rfl rfl (Nat.le_of_ble_eq_true rfl) dX5_scanWord_86 (fun H locs hP hD hS => ?_)
          have hP : va_P G cl [(a0, .inr (5, [.ref a1, .int v_tp_1, .int h1, .int v_tp_3, .int 4, .long y2, .int v_tp_6])), (a1, .inl (cB, 1300, .inl g_tp_bytes))] H := hP
          have hD : va_D A [(a0, .inr (5, [.ref a1, .int v_tp_1, .int h1, .int v_tp_3, .int 4, .long y2, .int v_tp_6])), (a1, .inl (cB, 1300, .inl g_tp_bytes))] := hD
          have l_l7 : (4 : Int32).toInt = 4 := rfl
          rw [← hQm]
          exact k_vret hC hr hlk hK hP hD hS (h1, 4, y2) [0, 1] rfl (by decide +kernel) (show 0 ≤ h1.toInt ∧ h1.toInt ≤ 1300 ∧ 1 ≤ (4 : Int32).toInt ∧ (4 : Int32).toInt ≤ 4 from by omega) (Nat.le_of_ble_eq_true rfl) (Nat.le_of_ble_eq_true rfl) dX5_scanWord_89
      · have dc3 : h1.toInt < v_tp_1.toInt := fa_nle c3
        refine lv_aload_n hx hb dX5_scanWord_16 rfl (lv_at hl 0 rfl) ?_
        refine k_get hC hK hP iX5 0 0 wf_X5_9 rfl (by decide) rfl rfl dX5_scanWord_17 ?_
        refine lv_aload_n hx hb dX5_scanWord_20 rfl (lv_at hl 0 rfl) ?_
        refine k_get hC hK hP iX5 0 2 wf_X5_19 rfl (by decide) rfl rfl dX5_scanWord_21 ?_
        refine t_bald hC hK hP 1 rfl (by omega) (by omega) hT_g_tp_bytes dX5_scanWord_24 (fun z8 tz8 => ?_)
        refine k_ci (wr := [(a0, .inr (5, [.ref a1, .int v_tp_1, .int h1, .int v_tp_3, .int v_tp_4, .long y2, .int v_tp_6])), (a1, .inl (cB, 1300, .inl g_tp_bytes))]) (k_rS hC hN hZ hS hA hK hP hD (c16_X5_isLetter l G cI cJ cB cZ z8) [] rfl (by decide +kernel) mi_X5_isLetter st_X5_isLetter wm_X5_42 hl.1 rfl rfl (Nat.le_of_ble_eq_true rfl) ⟨(Nat.le_of_ble_eq_true rfl), (Nat.le_of_ble_eq_true rfl)⟩ dX5_scanWord_25 ⟨(Nat.le_of_ble_eq_true rfl), (Nat.le_of_ble_eq_true rfl)⟩) hP hD hS hA [] [0, 1] rfl rfl (by decide +kernel) (by decide +kernel) (fun r9 u9 H locs hp hP hD hS => ?_)
        have hp : (0 ≤ r9.toInt ∧ r9.toInt ≤ 1) := hp
        have hP : va_P G cl [(a0, .inr (5, [.ref a1, .int v_tp_1, .int h1, .int v_tp_3, .int v_tp_4, .long y2, .int v_tp_6])), (a1, .inl (cB, 1300, .inl g_tp_bytes))] H := hP
        have hD : va_D A [(a0, .inr (5, [.ref a1, .int v_tp_1, .int h1, .int v_tp_3, .int v_tp_4, .long y2, .int v_tp_6])), (a1, .inl (cB, 1300, .inl g_tp_bytes))] := hD
        have hq9 := hp
        refine lv_if_eq (tgt := 66) hx hb dX5_scanWord_28 (by decide) (fun c10 => ?_) (fun c10 => ?_)
        · have dc10 : r9.toInt = 0 := (fa_eq _ _).mp c10
          refine lv_aload_n hx hb dX5_scanWord_66 rfl (lv_at hl 0 rfl) ?_
          refine lv_aload_n hx hb dX5_scanWord_67 rfl (lv_at hl 0 rfl) ?_
          refine k_get hC hK hP iX5 0 2 wf_X5_19 rfl (by decide) rfl rfl dX5_scanWord_68 ?_
          refine lv_aload_n hx hb dX5_scanWord_71 rfl (lv_at hl 0 rfl) ?_
          refine k_get hC hK hP iX5 0 3 wf_X5_22 rfl (by decide) rfl rfl dX5_scanWord_72 ?_
          refine lv_isub hx hb dX5_scanWord_75 ?_
          refine lv_topi (fun z11 _ => ?_)
          refine lv_bipush (v := 8) hx hb dX5_scanWord_76 (by decide) ?_
          refine lv_icmp_le (tgt := 85) hx hb dX5_scanWord_78 (by decide) (fun c12 => ?_) (fun c12 => ?_)
          · have dc12 : z11.toInt ≤ 8 := (fa_le _ _).mp c12; have lbc12_0 := i_lo z11; have ubc12_0 := i_hi z11
            refine lv_iconst (v := 1) hx hb dX5_scanWord_85 (by decide) ?_
            refine k_put hC hK hP hD hS iX5 tyX5_ok nmX5 0 4 wf_X5_25 rfl (by decide) rfl rfl rfl rfl (Nat.le_of_ble_eq_true rfl) dX5_scanWord_86 (fun H locs hP hD hS => ?_)
            have hP : va_P G cl [(a0, .inr (5, [.ref a1, .int v_tp_1, .int h1, .int v_tp_3, .int 1, .long y2, .int v_tp_6])), (a1, .inl (cB, 1300, .inl g_tp_bytes))] H := hP
            have hD : va_D A [(a0, .inr (5, [.ref a1, .int v_tp_1, .int h1, .int v_tp_3, .int 1, .long y2, .int v_tp_6])), (a1, .inl (cB, 1300, .inl g_tp_bytes))] := hD
            have l_l13 : (1 : Int32).toInt = 1 := rfl
            rw [← hQm]
            exact k_vret hC hr hlk hK hP hD hS (h1, 1, y2) [0, 1] rfl (by decide +kernel) (show 0 ≤ h1.toInt ∧ h1.toInt ≤ 1300 ∧ 1 ≤ (1 : Int32).toInt ∧ (1 : Int32).toInt ≤ 4 from by omega) (Nat.le_of_ble_eq_true rfl) (Nat.le_of_ble_eq_true rfl) dX5_scanWord_89
          · have dc12 : 8 < z11.toInt := fa_nle c12; have lbc12_0 := i_lo z11; have ubc12_0 := i_hi z11
            refine lv_iconst (v := 4) hx hb dX5_scanWord_81 (by decide) ?_
            refine lv_goto (tgt := 86) hx hb dX5_scanWord_82 (by decide) ?_
            refine k_put hC hK hP hD hS iX5 tyX5_ok nmX5 0 4 wf_X5_25 rfl (by decide) rfl rfl rfl rfl (Nat.le_of_ble_eq_true rfl) dX5_scanWord_86 (fun H locs hP hD hS => ?_)
            have hP : va_P G cl [(a0, .inr (5, [.ref a1, .int v_tp_1, .int h1, .int v_tp_3, .int 4, .long y2, .int v_tp_6])), (a1, .inl (cB, 1300, .inl g_tp_bytes))] H := hP
            have hD : va_D A [(a0, .inr (5, [.ref a1, .int v_tp_1, .int h1, .int v_tp_3, .int 4, .long y2, .int v_tp_6])), (a1, .inl (cB, 1300, .inl g_tp_bytes))] := hD
            have l_l14 : (4 : Int32).toInt = 4 := rfl
            rw [← hQm]
            exact k_vret hC hr hlk hK hP hD hS (h1, 4, y2) [0, 1] rfl (by decide +kernel) (show 0 ≤ h1.toInt ∧ h1.toInt ≤ 1300 ∧ 1 ≤ (4 : Int32).toInt ∧ (4 : Int32).toInt ≤ 4 from by omega) (Nat.le_of_ble_eq_true rfl) (Nat.le_of_ble_eq_true rfl) dX5_scanWord_89
        · have dc10 : r9.toInt ≠ 0 := fa_ne c10
          refine lv_aload_n hx hb dX5_scanWord_31 rfl (lv_at hl 0 rfl) ?_
          refine lv_aload_n hx hb dX5_scanWord_32 rfl (lv_at hl 0 rfl) ?_
          refine k_get hC hK hP iX5 0 5 wf_X5_28 rfl (by decide) rfl rfl dX5_scanWord_33 ?_
          refine lv_bipush (v := 8) hx hb dX5_scanWord_36 (by decide) ?_
          refine lv_lshl hx hb dX5_scanWord_38 rfl ?_
          refine t_l (fun y15 => ?_)
          refine lv_aload_n hx hb dX5_scanWord_39 rfl (lv_at hl 0 rfl) ?_
          refine k_get hC hK hP iX5 0 0 wf_X5_9 rfl (by decide) rfl rfl dX5_scanWord_40 ?_
          refine lv_aload_n hx hb dX5_scanWord_43 rfl (lv_at hl 0 rfl) ?_
          refine k_get hC hK hP iX5 0 2 wf_X5_19 rfl (by decide) rfl rfl dX5_scanWord_44 ?_
          refine t_bald hC hK hP 1 rfl (by omega) (by omega) hT_g_tp_bytes dX5_scanWord_47 (fun z16 tz16 => ?_)
          refine lv_i2l hx hb dX5_scanWord_48 rfl ?_
          refine t_l (fun y17 => ?_)
          refine lv_lor hx hb dX5_scanWord_49 ?_
          refine t_l (fun y18 => ?_)
          refine k_put hC hK hP hD hS iX5 tyX5_ok nmX5 0 5 wf_X5_28 rfl (by decide) rfl rfl rfl rfl (Nat.le_of_ble_eq_true rfl) dX5_scanWord_50 (fun H locs hP hD hS => ?_)
          have hP : va_P G cl [(a0, .inr (5, [.ref a1, .int v_tp_1, .int h1, .int v_tp_3, .int v_tp_4, .long y18, .int v_tp_6])), (a1, .inl (cB, 1300, .inl g_tp_bytes))] H := hP
          have hD : va_D A [(a0, .inr (5, [.ref a1, .int v_tp_1, .int h1, .int v_tp_3, .int v_tp_4, .long y18, .int v_tp_6])), (a1, .inl (cB, 1300, .inl g_tp_bytes))] := hD
          refine lv_aload_n hx hb dX5_scanWord_53 rfl (lv_at hl 0 rfl) ?_
          refine lv_dup hx hb dX5_scanWord_54 rfl ?_
          refine k_get hC hK hP iX5 0 2 wf_X5_19 rfl (by decide) rfl rfl dX5_scanWord_55 ?_
          refine lv_iconst (v := 1) hx hb dX5_scanWord_58 (by decide) ?_
          refine lv_iadd hx hb dX5_scanWord_59 ?_
          refine t_i (fun q => q.toInt = h1.toInt + 1) (add_i (by show (-2147483648 : Int) ≤ h1.toInt + 1; omega) (by show h1.toInt + 1 ≤ (2147483647 : Int); omega)) (fun z19 tz19 => ?_)
          refine k_put hC hK hP hD hS iX5 tyX5_ok nmX5 0 2 wf_X5_19 rfl (by decide) rfl rfl rfl rfl (Nat.le_of_ble_eq_true rfl) dX5_scanWord_60 (fun H locs hP hD hS => ?_)
          have hP : va_P G cl [(a0, .inr (5, [.ref a1, .int v_tp_1, .int z19, .int v_tp_3, .int v_tp_4, .long y18, .int v_tp_6])), (a1, .inl (cB, 1300, .inl g_tp_bytes))] H := hP
          have hD : va_D A [(a0, .inr (5, [.ref a1, .int v_tp_1, .int z19, .int v_tp_3, .int v_tp_4, .long y18, .int v_tp_6])), (a1, .inl (cB, 1300, .inl g_tp_bytes))] := hD
          refine lv_goto (tgt := 5) hx hb dX5_scanWord_63 (by decide) ?_
          exact ih  z19 y18 H locs ls (by omega) (by omega) (hP.subm [0, 1] rfl) (hD.sub [0, 1] (by decide +kernel) rfl) hS (lv_sub hl [0] rfl)
  exact L_5 1301 v_tp_2 0 H locs ls (by omega) (by omega) (hP.subm [0, 1] rfl) (hD.sub [0, 1] (by decide +kernel) rfl) hS (lv_sub hl [0] rfl)
theorem dX5_advance_0 : decode cX5_advance 0 = .ok (.aload_n 0, 1) := by decide +kernel
theorem dX5_advance_1 : decode cX5_advance 1 = .ok (.getfield 19, 3) := by decide +kernel
theorem dX5_advance_4 : decode cX5_advance 4 = .ok (.aload_n 0, 1) := by decide +kernel
theorem dX5_advance_5 : decode cX5_advance 5 = .ok (.getfield 15, 3) := by decide +kernel
theorem dX5_advance_8 : decode cX5_advance 8 = .ok (.if_icmp .ge 31, 3) := by decide +kernel
theorem dX5_advance_39 : decode cX5_advance 39 = .ok (.aload_n 0, 1) := by decide +kernel
theorem dX5_advance_40 : decode cX5_advance 40 = .ok (.aload_n 0, 1) := by decide +kernel
theorem dX5_advance_41 : decode cX5_advance 41 = .ok (.getfield 19, 3) := by decide +kernel
theorem dX5_advance_44 : decode cX5_advance 44 = .ok (.putfield 22, 3) := by decide +kernel
theorem dX5_advance_47 : decode cX5_advance 47 = .ok (.aload_n 0, 1) := by decide +kernel
theorem dX5_advance_48 : decode cX5_advance 48 = .ok (.getfield 19, 3) := by decide +kernel
theorem dX5_advance_51 : decode cX5_advance 51 = .ok (.aload_n 0, 1) := by decide +kernel
theorem dX5_advance_52 : decode cX5_advance 52 = .ok (.getfield 15, 3) := by decide +kernel
theorem dX5_advance_55 : decode cX5_advance 55 = .ok (.if_icmp .lt 11, 3) := by decide +kernel
theorem dX5_advance_66 : decode cX5_advance 66 = .ok (.aload_n 0, 1) := by decide +kernel
theorem dX5_advance_67 : decode cX5_advance 67 = .ok (.getfield 9, 3) := by decide +kernel
theorem dX5_advance_70 : decode cX5_advance 70 = .ok (.aload_n 0, 1) := by decide +kernel
theorem dX5_advance_71 : decode cX5_advance 71 = .ok (.getfield 19, 3) := by decide +kernel
theorem dX5_advance_74 : decode cX5_advance 74 = .ok (.baload, 1) := by decide +kernel
theorem dX5_advance_75 : decode cX5_advance 75 = .ok (.invokestatic 42, 3) := by decide +kernel
theorem dX5_advance_78 : decode cX5_advance 78 = .ok (.ifCond .eq 10, 3) := by decide +kernel
theorem dX5_advance_88 : decode cX5_advance 88 = .ok (.aload_n 0, 1) := by decide +kernel
theorem dX5_advance_89 : decode cX5_advance 89 = .ok (.getfield 9, 3) := by decide +kernel
theorem dX5_advance_92 : decode cX5_advance 92 = .ok (.aload_n 0, 1) := by decide +kernel
theorem dX5_advance_93 : decode cX5_advance 93 = .ok (.getfield 19, 3) := by decide +kernel
theorem dX5_advance_96 : decode cX5_advance 96 = .ok (.baload, 1) := by decide +kernel
theorem dX5_advance_97 : decode cX5_advance 97 = .ok (.invokestatic 48, 3) := by decide +kernel
theorem dX5_advance_100 : decode cX5_advance 100 = .ok (.ifCond .eq 10, 3) := by decide +kernel
theorem dX5_advance_110 : decode cX5_advance 110 = .ok (.aload_n 0, 1) := by decide +kernel
theorem dX5_advance_111 : decode cX5_advance 111 = .ok (.aload_n 0, 1) := by decide +kernel
theorem dX5_advance_112 : decode cX5_advance 112 = .ok (.getfield 9, 3) := by decide +kernel
theorem dX5_advance_115 : decode cX5_advance 115 = .ok (.aload_n 0, 1) := by decide +kernel
theorem dX5_advance_116 : decode cX5_advance 116 = .ok (.getfield 19, 3) := by decide +kernel
theorem dX5_advance_119 : decode cX5_advance 119 = .ok (.baload, 1) := by decide +kernel
theorem dX5_advance_120 : decode cX5_advance 120 = .ok (.bipush 59, 2) := by decide +kernel
theorem dX5_advance_122 : decode cX5_advance 122 = .ok (.if_icmp .ne 7, 3) := by decide +kernel
theorem dX5_advance_129 : decode cX5_advance 129 = .ok (.iconst 4, 1) := by decide +kernel
theorem dX5_advance_130 : decode cX5_advance 130 = .ok (.putfield 25, 3) := by decide +kernel
theorem dX5_advance_133 : decode cX5_advance 133 = .ok (.aload_n 0, 1) := by decide +kernel
theorem dX5_advance_134 : decode cX5_advance 134 = .ok (.dup, 1) := by decide +kernel
theorem dX5_advance_135 : decode cX5_advance 135 = .ok (.getfield 19, 3) := by decide +kernel
theorem dX5_advance_138 : decode cX5_advance 138 = .ok (.iconst 1, 1) := by decide +kernel
theorem dX5_advance_139 : decode cX5_advance 139 = .ok (.iadd, 1) := by decide +kernel
theorem dX5_advance_140 : decode cX5_advance 140 = .ok (.putfield 19, 3) := by decide +kernel
theorem dX5_advance_143 : decode cX5_advance 143 = .ok (.return_, 1) := by decide +kernel
theorem dX5_advance_125 : decode cX5_advance 125 = .ok (.iconst 3, 1) := by decide +kernel
theorem dX5_advance_126 : decode cX5_advance 126 = .ok (.goto 4, 3) := by decide +kernel
theorem dX5_advance_103 : decode cX5_advance 103 = .ok (.aload_n 0, 1) := by decide +kernel
theorem dX5_advance_104 : decode cX5_advance 104 = .ok (.invokevirtual 51, 3) := by decide +kernel
set_option maxRecDepth 100000 in
theorem wm_X5_51 : Cond.methodLink RX5 51 yX5_scanNumber ∈ gw := gm (List.mem_of_getElem? (i := 609) (by decide +kernel)) rfl
set_option maxRecDepth 100000 in
theorem mi_X5_scanNumber : MI yX5_scanNumber cX5_scanNumber 2 none 0 := ⟨gm (List.mem_of_getElem? (i := 612) rfl) rfl, gm (List.mem_of_getElem? (i := 119) (by decide +kernel)) rfl, by decide, by decide, by decide +kernel⟩
set_option maxRecDepth 100000 in
theorem in_X5_scanNumber : Cond.instanceMethod yX5_scanNumber ∈ gw := gm (List.mem_of_getElem? (i := 611) (by decide +kernel)) rfl
set_option maxRecDepth 100000 in
theorem se_X5_scanNumber : Cond.selects yX5_scanNumber.cls yX5_scanNumber yX5_scanNumber ∈ gw := gm (List.mem_of_getElem? (i := 2) (by decide +kernel)) rfl
theorem dX5_advance_107 : decode cX5_advance 107 = .ok (.goto 36, 3) := by decide +kernel
theorem dX5_advance_81 : decode cX5_advance 81 = .ok (.aload_n 0, 1) := by decide +kernel
theorem dX5_advance_82 : decode cX5_advance 82 = .ok (.invokevirtual 45, 3) := by decide +kernel
set_option maxRecDepth 100000 in
theorem wm_X5_45 : Cond.methodLink RX5 45 yX5_scanWord ∈ gw := gm (List.mem_of_getElem? (i := 602) (by decide +kernel)) rfl
set_option maxRecDepth 100000 in
theorem mi_X5_scanWord : MI yX5_scanWord cX5_scanWord 1 none 0 := ⟨gm (List.mem_of_getElem? (i := 605) rfl) rfl, gm (List.mem_of_getElem? (i := 119) (by decide +kernel)) rfl, by decide, by decide, by decide +kernel⟩
set_option maxRecDepth 100000 in
theorem in_X5_scanWord : Cond.instanceMethod yX5_scanWord ∈ gw := gm (List.mem_of_getElem? (i := 604) (by decide +kernel)) rfl
set_option maxRecDepth 100000 in
theorem se_X5_scanWord : Cond.selects yX5_scanWord.cls yX5_scanWord yX5_scanWord ∈ gw := gm (List.mem_of_getElem? (i := 1) (by decide +kernel)) rfl
theorem dX5_advance_85 : decode cX5_advance 85 = .ok (.goto 58, 3) := by decide +kernel
theorem dX5_advance_58 : decode cX5_advance 58 = .ok (.aload_n 0, 1) := by decide +kernel
theorem dX5_advance_59 : decode cX5_advance 59 = .ok (.iconst 0, 1) := by decide +kernel
theorem dX5_advance_60 : decode cX5_advance 60 = .ok (.putfield 25, 3) := by decide +kernel
theorem dX5_advance_63 : decode cX5_advance 63 = .ok (.goto 80, 3) := by decide +kernel
theorem dX5_advance_11 : decode cX5_advance 11 = .ok (.aload_n 0, 1) := by decide +kernel
theorem dX5_advance_12 : decode cX5_advance 12 = .ok (.getfield 9, 3) := by decide +kernel
theorem dX5_advance_15 : decode cX5_advance 15 = .ok (.aload_n 0, 1) := by decide +kernel
theorem dX5_advance_16 : decode cX5_advance 16 = .ok (.getfield 19, 3) := by decide +kernel
theorem dX5_advance_19 : decode cX5_advance 19 = .ok (.baload, 1) := by decide +kernel
theorem dX5_advance_20 : decode cX5_advance 20 = .ok (.invokestatic 38, 3) := by decide +kernel
set_option maxRecDepth 100000 in
theorem wm_X5_38 : Cond.methodLink RX5 38 yX5_isBlank ∈ gw := gm (List.mem_of_getElem? (i := 596) (by decide +kernel)) rfl
set_option maxRecDepth 100000 in
theorem mi_X5_isBlank : MI yX5_isBlank cX5_isBlank 1 (some .boolean) 1 := ⟨gm (List.mem_of_getElem? (i := 598) rfl) rfl, gm (List.mem_of_getElem? (i := 119) (by decide +kernel)) rfl, by decide, by decide, by decide +kernel⟩
set_option maxRecDepth 100000 in
theorem st_X5_isBlank : Cond.static yX5_isBlank ∈ gw := gm (List.mem_of_getElem? (i := 597) (by decide +kernel)) rfl
theorem dX5_advance_23 : decode cX5_advance 23 = .ok (.ifCond .eq 16, 3) := by decide +kernel
theorem dX5_advance_26 : decode cX5_advance 26 = .ok (.aload_n 0, 1) := by decide +kernel
theorem dX5_advance_27 : decode cX5_advance 27 = .ok (.dup, 1) := by decide +kernel
theorem dX5_advance_28 : decode cX5_advance 28 = .ok (.getfield 19, 3) := by decide +kernel
theorem dX5_advance_31 : decode cX5_advance 31 = .ok (.iconst 1, 1) := by decide +kernel
theorem dX5_advance_32 : decode cX5_advance 32 = .ok (.iadd, 1) := by decide +kernel
theorem dX5_advance_33 : decode cX5_advance 33 = .ok (.putfield 19, 3) := by decide +kernel
theorem dX5_advance_36 : decode cX5_advance 36 = .ok (.goto (-36), 3) := by decide +kernel
set_option maxHeartbeats 4000000 in
set_option maxRecDepth 100000 in
theorem c20_X5_advance (l : Launch) (G : va_G) (cI cJ cB cZ : ClassId) (a0 a1 : Nat) (v_tp_1 : Int32) (v_tp_2 : Int32) (v_tp_3 : Int32) (v_tp_4 : Int32) (w_tp_5 : Int64) (v_tp_6 : Int32) (g_tp_bytes : Nat → Int32) (hv_0 : 0 ≤ v_tp_1.toInt) (hv_1 : v_tp_1.toInt ≤ 1300) (hv_2 : 0 ≤ v_tp_2.toInt) (hv_3 : v_tp_2.toInt ≤ 1300) (hT_g_tp_bytes : TA (-128) 127 g_tp_bytes) : Con l G (TY cI cJ cB cZ) yX5_advance cX5_advance 1 none ({ frames := 2, cells := 0, slots := 0, locals := 41 } : Room) [.ref a0] [(a0, .inr (5, [.ref a1, .int v_tp_1, .int v_tp_2, .int v_tp_3, .int v_tp_4, .long w_tp_5, .int v_tp_6])), (a1, .inl (cB, 1300, .inl g_tp_bytes))] (QV G (TY cI cJ cB cZ) (fun u : Int32 × Int32 × Int32 × Int64 × Int32 => (0 ≤ u.1.toInt ∧ u.1.toInt ≤ 1300 ∧ 0 ≤ u.2.1.toInt ∧ u.2.1.toInt ≤ 1300 ∧ 0 ≤ u.2.2.1.toInt ∧ u.2.2.1.toInt ≤ 4)) (fun u : Int32 × Int32 × Int32 × Int64 × Int32 => [(a0, .inr (5, [.ref a1, .int v_tp_1, .int u.1, .int u.2.1, .int u.2.2.1, .long u.2.2.2.1, .int u.2.2.2.2])), (a1, .inl (cB, 1300, .inl g_tp_bytes))])) := by
  refine k_met (by decide) (Nat.le_of_ble_eq_true rfl) ?_
  intro p e s m below meth c A ls hC hr hlk hnm hN hZ hK hA hP hD hS hl
  have hl : lv_has ls 1 [(0, .ref a0)] := hl
  generalize hQm : MQ below _ _ s _ _ A = Qm
  generalize (List.toArray _ : Array Value) = args at hC hQm ⊢
  obtain ⟨hx, hb, hml, hown, hts⟩ := id hC
  obtain ⟨H, hH⟩ : ∃ q, q = s.heap := ⟨_, rfl⟩
  obtain ⟨locs, hlo⟩ : ∃ q : List Loc, q = [] := ⟨_, rfl⟩
  have hP : va_P G cl [(a0, .inr (5, [.ref a1, .int v_tp_1, .int v_tp_2, .int v_tp_3, .int v_tp_4, .long w_tp_5, .int v_tp_6])), (a1, .inl (cB, 1300, .inl g_tp_bytes))] H := by rw [hH]; exact hP
  have hS : va_S A s.heap H locs := by rw [hH, hlo]; exact hS
  rw [← hlo]
  rw [← hH]
  have L_0 : ∀ (n : Nat) (h1 : Int32) (H : Heap) (locs : List Loc) (ls : Array Slot), (0 ≤ h1.toInt ∧ h1.toInt ≤ 1300) → 1300 - h1.toInt < (n : Int) → va_P G cl [(a0, .inr (5, [.ref a1, .int v_tp_1, .int h1, .int v_tp_3, .int v_tp_4, .long w_tp_5, .int v_tp_6])), (a1, .inl (cB, 1300, .inl g_tp_bytes))] H → va_D A [(a0, .inr (5, [.ref a1, .int v_tp_1, .int h1, .int v_tp_3, .int v_tp_4, .long w_tp_5, .int v_tp_6])), (a1, .inl (cB, 1300, .inl g_tp_bytes))] → va_S A s.heap H locs → lv_has ls 1 [(0, .ref a0)] → W p l e ({ frames := 2, cells := 0, slots := 0, locals := 41 } : Room) s m args below meth c H locs 0 0 Qm (F0 m 0 ls []) := by
    intro n
    induction n with
    | zero => intro h1 H locs ls hv hm; omega
    | succ n ih =>
      intro h1 H locs ls hv hm hP hD hS hl
      refine lv_aload_n hx hb dX5_advance_0 rfl (lv_at hl 0 rfl) ?_
      refine k_get hC hK hP iX5 0 2 wf_X5_19 rfl (by decide) rfl rfl dX5_advance_1 ?_
      refine lv_aload_n hx hb dX5_advance_4 rfl (lv_at hl 0 rfl) ?_
      refine k_get hC hK hP iX5 0 1 wf_X5_15 rfl (by decide) rfl rfl dX5_advance_5 ?_
      refine lv_icmp_ge (tgt := 39) hx hb dX5_advance_8 (by decide) (fun c2 => ?_) (fun c2 => ?_)
      · have dc2 : v_tp_1.toInt ≤ h1.toInt := (fa_le _ _).mp c2
        refine lv_aload_n hx hb dX5_advance_39 rfl (lv_at hl 0 rfl) ?_
        refine lv_aload_n hx hb dX5_advance_40 rfl (lv_at hl 0 rfl) ?_
        refine k_get hC hK hP iX5 0 2 wf_X5_19 rfl (by decide) rfl rfl dX5_advance_41 ?_
        refine k_put hC hK hP hD hS iX5 tyX5_ok nmX5 0 3 wf_X5_22 rfl (by decide) rfl rfl rfl rfl (Nat.le_of_ble_eq_true rfl) dX5_advance_44 (fun H locs hP hD hS => ?_)
        have hP : va_P G cl [(a0, .inr (5, [.ref a1, .int v_tp_1, .int h1, .int h1, .int v_tp_4, .long w_tp_5, .int v_tp_6])), (a1, .inl (cB, 1300, .inl g_tp_bytes))] H := hP
        have hD : va_D A [(a0, .inr (5, [.ref a1, .int v_tp_1, .int h1, .int h1, .int v_tp_4, .long w_tp_5, .int v_tp_6])), (a1, .inl (cB, 1300, .inl g_tp_bytes))] := hD
        refine lv_aload_n hx hb dX5_advance_47 rfl (lv_at hl 0 rfl) ?_
        refine k_get hC hK hP iX5 0 2 wf_X5_19 rfl (by decide) rfl rfl dX5_advance_48 ?_
        refine lv_aload_n hx hb dX5_advance_51 rfl (lv_at hl 0 rfl) ?_
        refine k_get hC hK hP iX5 0 1 wf_X5_15 rfl (by decide) rfl rfl dX5_advance_52 ?_
        refine lv_icmp_lt (tgt := 66) hx hb dX5_advance_55 (by decide) (fun c3 => ?_) (fun c3 => ?_)
        · have dc3 : h1.toInt < v_tp_1.toInt := (fa_lt _ _).mp c3
          refine lv_aload_n hx hb dX5_advance_66 rfl (lv_at hl 0 rfl) ?_
          refine k_get hC hK hP iX5 0 0 wf_X5_9 rfl (by decide) rfl rfl dX5_advance_67 ?_
          refine lv_aload_n hx hb dX5_advance_70 rfl (lv_at hl 0 rfl) ?_
          refine k_get hC hK hP iX5 0 2 wf_X5_19 rfl (by decide) rfl rfl dX5_advance_71 ?_
          refine t_bald hC hK hP 1 rfl (by omega) (by omega) hT_g_tp_bytes dX5_advance_74 (fun z4 tz4 => ?_)
          refine k_ci (wr := [(a0, .inr (5, [.ref a1, .int v_tp_1, .int h1, .int h1, .int v_tp_4, .long w_tp_5, .int v_tp_6])), (a1, .inl (cB, 1300, .inl g_tp_bytes))]) (k_rS hC hN hZ hS hA hK hP hD (c16_X5_isLetter l G cI cJ cB cZ z4) [] rfl (by decide +kernel) mi_X5_isLetter st_X5_isLetter wm_X5_42 hl.1 rfl rfl (Nat.le_of_ble_eq_true rfl) ⟨(Nat.le_of_ble_eq_true rfl), (Nat.le_of_ble_eq_true rfl)⟩ dX5_advance_75 ⟨(Nat.le_of_ble_eq_true rfl), (Nat.le_of_ble_eq_true rfl)⟩) hP hD hS hA [] [0, 1] rfl rfl (by decide +kernel) (by decide +kernel) (fun r5 u5 H locs hp hP hD hS => ?_)
          have hp : (0 ≤ r5.toInt ∧ r5.toInt ≤ 1) := hp
          have hP : va_P G cl [(a0, .inr (5, [.ref a1, .int v_tp_1, .int h1, .int h1, .int v_tp_4, .long w_tp_5, .int v_tp_6])), (a1, .inl (cB, 1300, .inl g_tp_bytes))] H := hP
          have hD : va_D A [(a0, .inr (5, [.ref a1, .int v_tp_1, .int h1, .int h1, .int v_tp_4, .long w_tp_5, .int v_tp_6])), (a1, .inl (cB, 1300, .inl g_tp_bytes))] := hD
          have hq5 := hp
          refine lv_if_eq (tgt := 88) hx hb dX5_advance_78 (by decide) (fun c6 => ?_) (fun c6 => ?_)
          · have dc6 : r5.toInt = 0 := (fa_eq _ _).mp c6
            refine lv_aload_n hx hb dX5_advance_88 rfl (lv_at hl 0 rfl) ?_
            refine k_get hC hK hP iX5 0 0 wf_X5_9 rfl (by decide) rfl rfl dX5_advance_89 ?_
            refine lv_aload_n hx hb dX5_advance_92 rfl (lv_at hl 0 rfl) ?_
            refine k_get hC hK hP iX5 0 2 wf_X5_19 rfl (by decide) rfl rfl dX5_advance_93 ?_
            refine t_bald hC hK hP 1 rfl (by omega) (by omega) hT_g_tp_bytes dX5_advance_96 (fun z7 tz7 => ?_)
            refine k_ci (wr := [(a0, .inr (5, [.ref a1, .int v_tp_1, .int h1, .int h1, .int v_tp_4, .long w_tp_5, .int v_tp_6])), (a1, .inl (cB, 1300, .inl g_tp_bytes))]) (k_rS hC hN hZ hS hA hK hP hD (c17_X5_isDigit l G cI cJ cB cZ z7) [] rfl (by decide +kernel) mi_X5_isDigit st_X5_isDigit wm_X5_48 hl.1 rfl rfl (Nat.le_of_ble_eq_true rfl) ⟨(Nat.le_of_ble_eq_true rfl), (Nat.le_of_ble_eq_true rfl)⟩ dX5_advance_97 ⟨(Nat.le_of_ble_eq_true rfl), (Nat.le_of_ble_eq_true rfl)⟩) hP hD hS hA [] [0, 1] rfl rfl (by decide +kernel) (by decide +kernel) (fun r8 u8 H locs hp hP hD hS => ?_)
            have hp : (0 ≤ r8.toInt ∧ r8.toInt ≤ 1) := hp
            have hP : va_P G cl [(a0, .inr (5, [.ref a1, .int v_tp_1, .int h1, .int h1, .int v_tp_4, .long w_tp_5, .int v_tp_6])), (a1, .inl (cB, 1300, .inl g_tp_bytes))] H := hP
            have hD : va_D A [(a0, .inr (5, [.ref a1, .int v_tp_1, .int h1, .int h1, .int v_tp_4, .long w_tp_5, .int v_tp_6])), (a1, .inl (cB, 1300, .inl g_tp_bytes))] := hD
            have hq8 := hp
            refine lv_if_eq (tgt := 110) hx hb dX5_advance_100 (by decide) (fun c9 => ?_) (fun c9 => ?_)
            · have dc9 : r8.toInt = 0 := (fa_eq _ _).mp c9
              refine lv_aload_n hx hb dX5_advance_110 rfl (lv_at hl 0 rfl) ?_
              refine lv_aload_n hx hb dX5_advance_111 rfl (lv_at hl 0 rfl) ?_
              refine k_get hC hK hP iX5 0 0 wf_X5_9 rfl (by decide) rfl rfl dX5_advance_112 ?_
              refine lv_aload_n hx hb dX5_advance_115 rfl (lv_at hl 0 rfl) ?_
              refine k_get hC hK hP iX5 0 2 wf_X5_19 rfl (by decide) rfl rfl dX5_advance_116 ?_
              refine t_bald hC hK hP 1 rfl (by omega) (by omega) hT_g_tp_bytes dX5_advance_119 (fun z10 tz10 => ?_)
              refine lv_bipush (v := 59) hx hb dX5_advance_120 (by decide) ?_
              refine lv_icmp_ne (tgt := 129) hx hb dX5_advance_122 (by decide) (fun c11 => ?_) (fun c11 => ?_)
              · have dc11 : z10.toInt ≠ 59 := fa_ne c11
                refine lv_iconst (v := 4) hx hb dX5_advance_129 (by decide) ?_
                refine k_put hC hK hP hD hS iX5 tyX5_ok nmX5 0 4 wf_X5_25 rfl (by decide) rfl rfl rfl rfl (Nat.le_of_ble_eq_true rfl) dX5_advance_130 (fun H locs hP hD hS => ?_)
                have hP : va_P G cl [(a0, .inr (5, [.ref a1, .int v_tp_1, .int h1, .int h1, .int 4, .long w_tp_5, .int v_tp_6])), (a1, .inl (cB, 1300, .inl g_tp_bytes))] H := hP
                have hD : va_D A [(a0, .inr (5, [.ref a1, .int v_tp_1, .int h1, .int h1, .int 4, .long w_tp_5, .int v_tp_6])), (a1, .inl (cB, 1300, .inl g_tp_bytes))] := hD
                refine lv_aload_n hx hb dX5_advance_133 rfl (lv_at hl 0 rfl) ?_
                refine lv_dup hx hb dX5_advance_134 rfl ?_
                refine k_get hC hK hP iX5 0 2 wf_X5_19 rfl (by decide) rfl rfl dX5_advance_135 ?_
                refine lv_iconst (v := 1) hx hb dX5_advance_138 (by decide) ?_
                refine lv_iadd hx hb dX5_advance_139 ?_
                refine t_i (fun q => q.toInt = h1.toInt + 1) (add_i (by show (-2147483648 : Int) ≤ h1.toInt + 1; omega) (by show h1.toInt + 1 ≤ (2147483647 : Int); omega)) (fun z12 tz12 => ?_)
                refine k_put hC hK hP hD hS iX5 tyX5_ok nmX5 0 2 wf_X5_19 rfl (by decide) rfl rfl rfl rfl (Nat.le_of_ble_eq_true rfl) dX5_advance_140 (fun H locs hP hD hS => ?_)
                have hP : va_P G cl [(a0, .inr (5, [.ref a1, .int v_tp_1, .int z12, .int h1, .int 4, .long w_tp_5, .int v_tp_6])), (a1, .inl (cB, 1300, .inl g_tp_bytes))] H := hP
                have hD : va_D A [(a0, .inr (5, [.ref a1, .int v_tp_1, .int z12, .int h1, .int 4, .long w_tp_5, .int v_tp_6])), (a1, .inl (cB, 1300, .inl g_tp_bytes))] := hD
                have l_l13 : (4 : Int32).toInt = 4 := rfl
                rw [← hQm]
                exact k_vret hC hr hlk hK hP hD hS (z12, h1, 4, w_tp_5, v_tp_6) [0, 1] rfl (by decide +kernel) (show 0 ≤ z12.toInt ∧ z12.toInt ≤ 1300 ∧ 0 ≤ h1.toInt ∧ h1.toInt ≤ 1300 ∧ 0 ≤ (4 : Int32).toInt ∧ (4 : Int32).toInt ≤ 4 from by omega) (Nat.le_of_ble_eq_true rfl) (Nat.le_of_ble_eq_true rfl) dX5_advance_143
              · have dc11 : z10.toInt = 59 := (fa_eq _ _).mp c11
                refine lv_iconst (v := 3) hx hb dX5_advance_125 (by decide) ?_
                refine lv_goto (tgt := 130) hx hb dX5_advance_126 (by decide) ?_
                refine k_put hC hK hP hD hS iX5 tyX5_ok nmX5 0 4 wf_X5_25 rfl (by decide) rfl rfl rfl rfl (Nat.le_of_ble_eq_true rfl) dX5_advance_130 (fun H locs hP hD hS => ?_)
                have hP : va_P G cl [(a0, .inr (5, [.ref a1, .int v_tp_1, .int h1, .int h1, .int 3, .long w_tp_5, .int v_tp_6])), (a1, .inl (cB, 1300, .inl g_tp_bytes))] H := hP
                have hD : va_D A [(a0, .inr (5, [.ref a1, .int v_tp_1, .int h1, .int h1, .int 3, .long w_tp_5, .int v_tp_6])), (a1, .inl (cB, 1300, .inl g_tp_bytes))] := hD
                refine lv_aload_n hx hb dX5_advance_133 rfl (lv_at hl 0 rfl) ?_
                refine lv_dup hx hb dX5_advance_134 rfl ?_
                refine k_get hC hK hP iX5 0 2 wf_X5_19 rfl (by decide) rfl rfl dX5_advance_135 ?_
                refine lv_iconst (v := 1) hx hb dX5_advance_138 (by decide) ?_
                refine lv_iadd hx hb dX5_advance_139 ?_
                refine t_i (fun q => q.toInt = h1.toInt + 1) (add_i (by show (-2147483648 : Int) ≤ h1.toInt + 1; omega) (by show h1.toInt + 1 ≤ (2147483647 : Int); omega)) (fun z14 tz14 => ?_)
                refine k_put hC hK hP hD hS iX5 tyX5_ok nmX5 0 2 wf_X5_19 rfl (by decide) rfl rfl rfl rfl (Nat.le_of_ble_eq_true rfl) dX5_advance_140 (fun H locs hP hD hS => ?_)
                have hP : va_P G cl [(a0, .inr (5, [.ref a1, .int v_tp_1, .int z14, .int h1, .int 3, .long w_tp_5, .int v_tp_6])), (a1, .inl (cB, 1300, .inl g_tp_bytes))] H := hP
                have hD : va_D A [(a0, .inr (5, [.ref a1, .int v_tp_1, .int z14, .int h1, .int 3, .long w_tp_5, .int v_tp_6])), (a1, .inl (cB, 1300, .inl g_tp_bytes))] := hD
                have l_l15 : (3 : Int32).toInt = 3 := rfl
                rw [← hQm]
                exact k_vret hC hr hlk hK hP hD hS (z14, h1, 3, w_tp_5, v_tp_6) [0, 1] rfl (by decide +kernel) (show 0 ≤ z14.toInt ∧ z14.toInt ≤ 1300 ∧ 0 ≤ h1.toInt ∧ h1.toInt ≤ 1300 ∧ 0 ≤ (3 : Int32).toInt ∧ (3 : Int32).toInt ≤ 4 from by omega) (Nat.le_of_ble_eq_true rfl) (Nat.le_of_ble_eq_true rfl) dX5_advance_143
            · have dc9 : r8.toInt ≠ 0 := fa_ne c9
              refine lv_aload_n hx hb dX5_advance_103 rfl (lv_at hl 0 rfl) ?_
              refine k_cv (wr := []) (k_rV hC hN hZ hS hA hK hP hD (c18_X5_scanNumber l G cI cJ cB cZ a0 a1 v_tp_1 h1 h1 v_tp_4 w_tp_5 v_tp_6 g_tp_bytes hv_0 hv_1 (by omega) (by omega) hT_g_tp_bytes) [0, 1] rfl (by decide +kernel) mi_X5_scanNumber in_X5_scanNumber se_X5_scanNumber wm_X5_51 5 0 rfl rfl rfl hl.1 rfl rfl (Nat.le_of_ble_eq_true rfl) ⟨(Nat.le_of_ble_eq_true rfl), (Nat.le_of_ble_eq_true rfl)⟩ dX5_advance_104 ⟨(Nat.le_of_ble_eq_true rfl), (Nat.le_of_ble_eq_true rfl)⟩) hP hD hS hA [0, 1] [] rfl rfl (by decide +kernel) (by decide +kernel) (fun u16 H locs hp hP hD hS => ?_)
              obtain ⟨h17, h18, h19⟩ := u16
              have hp : (0 ≤ h17.toInt ∧ h17.toInt ≤ 1300 ∧ 2 ≤ h18.toInt ∧ h18.toInt ≤ 4) := hp
              have hP : va_P G cl [(a0, .inr (5, [.ref a1, .int v_tp_1, .int h17, .int h1, .int h18, .long w_tp_5, .int h19])), (a1, .inl (cB, 1300, .inl g_tp_bytes))] H := hP
              have hD : va_D A [(a0, .inr (5, [.ref a1, .int v_tp_1, .int h17, .int h1, .int h18, .long w_tp_5, .int h19])), (a1, .inl (cB, 1300, .inl g_tp_bytes))] := hD
              have hq16 := hp
              refine lv_goto (tgt := 143) hx hb dX5_advance_107 (by decide) ?_
              rw [← hQm]
              exact k_vret hC hr hlk hK hP hD hS (h17, h1, h18, w_tp_5, h19) [0, 1] rfl (by decide +kernel) (show 0 ≤ h17.toInt ∧ h17.toInt ≤ 1300 ∧ 0 ≤ h1.toInt ∧ h1.toInt ≤ 1300 ∧ 0 ≤ h18.toInt ∧ h18.toInt ≤ 4 from by omega) (Nat.le_of_ble_eq_true rfl) (Nat.le_of_ble_eq_true rfl) dX5_advance_143
          · have dc6 : r5.toInt ≠ 0 := fa_ne c6
            refine lv_aload_n hx hb dX5_advance_81 rfl (lv_at hl 0 rfl) ?_
            refine k_cv (wr := []) (k_rV hC hN hZ hS hA hK hP hD (c19_X5_scanWord l G cI cJ cB cZ a0 a1 v_tp_1 h1 h1 v_tp_4 w_tp_5 v_tp_6 g_tp_bytes hv_0 hv_1 (by omega) (by omega) hT_g_tp_bytes) [0, 1] rfl (by decide +kernel) mi_X5_scanWord in_X5_scanWord se_X5_scanWord wm_X5_45 5 0 rfl rfl rfl hl.1 rfl rfl (Nat.le_of_ble_eq_true rfl) ⟨(Nat.le_of_ble_eq_true rfl), (Nat.le_of_ble_eq_true rfl)⟩ dX5_advance_82 ⟨(Nat.le_of_ble_eq_true rfl), (Nat.le_of_ble_eq_true rfl)⟩) hP hD hS hA [0, 1] [] rfl rfl (by decide +kernel) (by decide +kernel) (fun u20 H locs hp hP hD hS => ?_)
            obtain ⟨h21, h22, y23⟩ := u20
            have hp : (0 ≤ h21.toInt ∧ h21.toInt ≤ 1300 ∧ 1 ≤ h22.toInt ∧ h22.toInt ≤ 4) := hp
            have hP : va_P G cl [(a0, .inr (5, [.ref a1, .int v_tp_1, .int h21, .int h1, .int h22, .long y23, .int v_tp_6])), (a1, .inl (cB, 1300, .inl g_tp_bytes))] H := hP
            have hD : va_D A [(a0, .inr (5, [.ref a1, .int v_tp_1, .int h21, .int h1, .int h22, .long y23, .int v_tp_6])), (a1, .inl (cB, 1300, .inl g_tp_bytes))] := hD
            have hq20 := hp
            refine lv_goto (tgt := 143) hx hb dX5_advance_85 (by decide) ?_
            rw [← hQm]
            exact k_vret hC hr hlk hK hP hD hS (h21, h1, h22, y23, v_tp_6) [0, 1] rfl (by decide +kernel) (show 0 ≤ h21.toInt ∧ h21.toInt ≤ 1300 ∧ 0 ≤ h1.toInt ∧ h1.toInt ≤ 1300 ∧ 0 ≤ h22.toInt ∧ h22.toInt ≤ 4 from by omega) (Nat.le_of_ble_eq_true rfl) (Nat.le_of_ble_eq_true rfl) dX5_advance_143
        · have dc3 : v_tp_1.toInt ≤ h1.toInt := fa_nlt c3
          refine lv_aload_n hx hb dX5_advance_58 rfl (lv_at hl 0 rfl) ?_
          refine lv_iconst (v := 0) hx hb dX5_advance_59 (by decide) ?_
          refine k_put hC hK hP hD hS iX5 tyX5_ok nmX5 0 4 wf_X5_25 rfl (by decide) rfl rfl rfl rfl (Nat.le_of_ble_eq_true rfl) dX5_advance_60 (fun H locs hP hD hS => ?_)
          have hP : va_P G cl [(a0, .inr (5, [.ref a1, .int v_tp_1, .int h1, .int h1, .int 0, .long w_tp_5, .int v_tp_6])), (a1, .inl (cB, 1300, .inl g_tp_bytes))] H := hP
          have hD : va_D A [(a0, .inr (5, [.ref a1, .int v_tp_1, .int h1, .int h1, .int 0, .long w_tp_5, .int v_tp_6])), (a1, .inl (cB, 1300, .inl g_tp_bytes))] := hD
          refine lv_goto (tgt := 143) hx hb dX5_advance_63 (by decide) ?_
          have l_l24 : (0 : Int32).toInt = 0 := rfl
          rw [← hQm]
          exact k_vret hC hr hlk hK hP hD hS (h1, h1, 0, w_tp_5, v_tp_6) [0, 1] rfl (by decide +kernel) (show 0 ≤ h1.toInt ∧ h1.toInt ≤ 1300 ∧ 0 ≤ h1.toInt ∧ h1.toInt ≤ 1300 ∧ 0 ≤ (0 : Int32).toInt ∧ (0 : Int32).toInt ≤ 4 from by omega) (Nat.le_of_ble_eq_true rfl) (Nat.le_of_ble_eq_true rfl) dX5_advance_143
      · have dc2 : h1.toInt < v_tp_1.toInt := fa_nle c2
        refine lv_aload_n hx hb dX5_advance_11 rfl (lv_at hl 0 rfl) ?_
        refine k_get hC hK hP iX5 0 0 wf_X5_9 rfl (by decide) rfl rfl dX5_advance_12 ?_
        refine lv_aload_n hx hb dX5_advance_15 rfl (lv_at hl 0 rfl) ?_
        refine k_get hC hK hP iX5 0 2 wf_X5_19 rfl (by decide) rfl rfl dX5_advance_16 ?_
        refine t_bald hC hK hP 1 rfl (by omega) (by omega) hT_g_tp_bytes dX5_advance_19 (fun z25 tz25 => ?_)
        refine k_ci (wr := [(a0, .inr (5, [.ref a1, .int v_tp_1, .int h1, .int v_tp_3, .int v_tp_4, .long w_tp_5, .int v_tp_6])), (a1, .inl (cB, 1300, .inl g_tp_bytes))]) (k_rS hC hN hZ hS hA hK hP hD (c15_X5_isBlank l G cI cJ cB cZ z25) [] rfl (by decide +kernel) mi_X5_isBlank st_X5_isBlank wm_X5_38 hl.1 rfl rfl (Nat.le_of_ble_eq_true rfl) ⟨(Nat.le_of_ble_eq_true rfl), (Nat.le_of_ble_eq_true rfl)⟩ dX5_advance_20 ⟨(Nat.le_of_ble_eq_true rfl), (Nat.le_of_ble_eq_true rfl)⟩) hP hD hS hA [] [0, 1] rfl rfl (by decide +kernel) (by decide +kernel) (fun r26 u26 H locs hp hP hD hS => ?_)
        have hp : (0 ≤ r26.toInt ∧ r26.toInt ≤ 1) := hp
        have hP : va_P G cl [(a0, .inr (5, [.ref a1, .int v_tp_1, .int h1, .int v_tp_3, .int v_tp_4, .long w_tp_5, .int v_tp_6])), (a1, .inl (cB, 1300, .inl g_tp_bytes))] H := hP
        have hD : va_D A [(a0, .inr (5, [.ref a1, .int v_tp_1, .int h1, .int v_tp_3, .int v_tp_4, .long w_tp_5, .int v_tp_6])), (a1, .inl (cB, 1300, .inl g_tp_bytes))] := hD
        have hq26 := hp
        refine lv_if_eq (tgt := 39) hx hb dX5_advance_23 (by decide) (fun c27 => ?_) (fun c27 => ?_)
        · have dc27 : r26.toInt = 0 := (fa_eq _ _).mp c27
          refine lv_aload_n hx hb dX5_advance_39 rfl (lv_at hl 0 rfl) ?_
          refine lv_aload_n hx hb dX5_advance_40 rfl (lv_at hl 0 rfl) ?_
          refine k_get hC hK hP iX5 0 2 wf_X5_19 rfl (by decide) rfl rfl dX5_advance_41 ?_
          refine k_put hC hK hP hD hS iX5 tyX5_ok nmX5 0 3 wf_X5_22 rfl (by decide) rfl rfl rfl rfl (Nat.le_of_ble_eq_true rfl) dX5_advance_44 (fun H locs hP hD hS => ?_)
          have hP : va_P G cl [(a0, .inr (5, [.ref a1, .int v_tp_1, .int h1, .int h1, .int v_tp_4, .long w_tp_5, .int v_tp_6])), (a1, .inl (cB, 1300, .inl g_tp_bytes))] H := hP
          have hD : va_D A [(a0, .inr (5, [.ref a1, .int v_tp_1, .int h1, .int h1, .int v_tp_4, .long w_tp_5, .int v_tp_6])), (a1, .inl (cB, 1300, .inl g_tp_bytes))] := hD
          refine lv_aload_n hx hb dX5_advance_47 rfl (lv_at hl 0 rfl) ?_
          refine k_get hC hK hP iX5 0 2 wf_X5_19 rfl (by decide) rfl rfl dX5_advance_48 ?_
          refine lv_aload_n hx hb dX5_advance_51 rfl (lv_at hl 0 rfl) ?_
          refine k_get hC hK hP iX5 0 1 wf_X5_15 rfl (by decide) rfl rfl dX5_advance_52 ?_
          refine lv_icmp_lt (tgt := 66) hx hb dX5_advance_55 (by decide) (fun c28 => ?_) (fun c28 => ?_)
          · have dc28 : h1.toInt < v_tp_1.toInt := (fa_lt _ _).mp c28
            refine lv_aload_n hx hb dX5_advance_66 rfl (lv_at hl 0 rfl) ?_
            refine k_get hC hK hP iX5 0 0 wf_X5_9 rfl (by decide) rfl rfl dX5_advance_67 ?_
            refine lv_aload_n hx hb dX5_advance_70 rfl (lv_at hl 0 rfl) ?_
            refine k_get hC hK hP iX5 0 2 wf_X5_19 rfl (by decide) rfl rfl dX5_advance_71 ?_
            refine t_bald hC hK hP 1 rfl (by omega) (by omega) hT_g_tp_bytes dX5_advance_74 (fun z29 tz29 => ?_)
            refine k_ci (wr := [(a0, .inr (5, [.ref a1, .int v_tp_1, .int h1, .int h1, .int v_tp_4, .long w_tp_5, .int v_tp_6])), (a1, .inl (cB, 1300, .inl g_tp_bytes))]) (k_rS hC hN hZ hS hA hK hP hD (c16_X5_isLetter l G cI cJ cB cZ z29) [] rfl (by decide +kernel) mi_X5_isLetter st_X5_isLetter wm_X5_42 hl.1 rfl rfl (Nat.le_of_ble_eq_true rfl) ⟨(Nat.le_of_ble_eq_true rfl), (Nat.le_of_ble_eq_true rfl)⟩ dX5_advance_75 ⟨(Nat.le_of_ble_eq_true rfl), (Nat.le_of_ble_eq_true rfl)⟩) hP hD hS hA [] [0, 1] rfl rfl (by decide +kernel) (by decide +kernel) (fun r30 u30 H locs hp hP hD hS => ?_)
            have hp : (0 ≤ r30.toInt ∧ r30.toInt ≤ 1) := hp
            have hP : va_P G cl [(a0, .inr (5, [.ref a1, .int v_tp_1, .int h1, .int h1, .int v_tp_4, .long w_tp_5, .int v_tp_6])), (a1, .inl (cB, 1300, .inl g_tp_bytes))] H := hP
            have hD : va_D A [(a0, .inr (5, [.ref a1, .int v_tp_1, .int h1, .int h1, .int v_tp_4, .long w_tp_5, .int v_tp_6])), (a1, .inl (cB, 1300, .inl g_tp_bytes))] := hD
            have hq30 := hp
            refine lv_if_eq (tgt := 88) hx hb dX5_advance_78 (by decide) (fun c31 => ?_) (fun c31 => ?_)
            · have dc31 : r30.toInt = 0 := (fa_eq _ _).mp c31
              refine lv_aload_n hx hb dX5_advance_88 rfl (lv_at hl 0 rfl) ?_
              refine k_get hC hK hP iX5 0 0 wf_X5_9 rfl (by decide) rfl rfl dX5_advance_89 ?_
              refine lv_aload_n hx hb dX5_advance_92 rfl (lv_at hl 0 rfl) ?_
              refine k_get hC hK hP iX5 0 2 wf_X5_19 rfl (by decide) rfl rfl dX5_advance_93 ?_
              refine t_bald hC hK hP 1 rfl (by omega) (by omega) hT_g_tp_bytes dX5_advance_96 (fun z32 tz32 => ?_)
              refine k_ci (wr := [(a0, .inr (5, [.ref a1, .int v_tp_1, .int h1, .int h1, .int v_tp_4, .long w_tp_5, .int v_tp_6])), (a1, .inl (cB, 1300, .inl g_tp_bytes))]) (k_rS hC hN hZ hS hA hK hP hD (c17_X5_isDigit l G cI cJ cB cZ z32) [] rfl (by decide +kernel) mi_X5_isDigit st_X5_isDigit wm_X5_48 hl.1 rfl rfl (Nat.le_of_ble_eq_true rfl) ⟨(Nat.le_of_ble_eq_true rfl), (Nat.le_of_ble_eq_true rfl)⟩ dX5_advance_97 ⟨(Nat.le_of_ble_eq_true rfl), (Nat.le_of_ble_eq_true rfl)⟩) hP hD hS hA [] [0, 1] rfl rfl (by decide +kernel) (by decide +kernel) (fun r33 u33 H locs hp hP hD hS => ?_)
              have hp : (0 ≤ r33.toInt ∧ r33.toInt ≤ 1) := hp
              have hP : va_P G cl [(a0, .inr (5, [.ref a1, .int v_tp_1, .int h1, .int h1, .int v_tp_4, .long w_tp_5, .int v_tp_6])), (a1, .inl (cB, 1300, .inl g_tp_bytes))] H := hP
              have hD : va_D A [(a0, .inr (5, [.ref a1, .int v_tp_1, .int h1, .int h1, .int v_tp_4, .long w_tp_5, .int v_tp_6])), (a1, .inl (cB, 1300, .inl g_tp_bytes))] := hD
              have hq33 := hp
              refine lv_if_eq (tgt := 110) hx hb dX5_advance_100 (by decide) (fun c34 => ?_) (fun c34 => ?_)
              · have dc34 : r33.toInt = 0 := (fa_eq _ _).mp c34
                refine lv_aload_n hx hb dX5_advance_110 rfl (lv_at hl 0 rfl) ?_
                refine lv_aload_n hx hb dX5_advance_111 rfl (lv_at hl 0 rfl) ?_
                refine k_get hC hK hP iX5 0 0 wf_X5_9 rfl (by decide) rfl rfl dX5_advance_112 ?_
                refine lv_aload_n hx hb dX5_advance_115 rfl (lv_at hl 0 rfl) ?_
                refine k_get hC hK hP iX5 0 2 wf_X5_19 rfl (by decide) rfl rfl dX5_advance_116 ?_
                refine t_bald hC hK hP 1 rfl (by omega) (by omega) hT_g_tp_bytes dX5_advance_119 (fun z35 tz35 => ?_)
                refine lv_bipush (v := 59) hx hb dX5_advance_120 (by decide) ?_
                refine lv_icmp_ne (tgt := 129) hx hb dX5_advance_122 (by decide) (fun c36 => ?_) (fun c36 => ?_)
                · have dc36 : z35.toInt ≠ 59 := fa_ne c36
                  refine lv_iconst (v := 4) hx hb dX5_advance_129 (by decide) ?_
                  refine k_put hC hK hP hD hS iX5 tyX5_ok nmX5 0 4 wf_X5_25 rfl (by decide) rfl rfl rfl rfl (Nat.le_of_ble_eq_true rfl) dX5_advance_130 (fun H locs hP hD hS => ?_)
                  have hP : va_P G cl [(a0, .inr (5, [.ref a1, .int v_tp_1, .int h1, .int h1, .int 4, .long w_tp_5, .int v_tp_6])), (a1, .inl (cB, 1300, .inl g_tp_bytes))] H := hP
                  have hD : va_D A [(a0, .inr (5, [.ref a1, .int v_tp_1, .int h1, .int h1, .int 4, .long w_tp_5, .int v_tp_6])), (a1, .inl (cB, 1300, .inl g_tp_bytes))] := hD
                  refine lv_aload_n hx hb dX5_advance_133 rfl (lv_at hl 0 rfl) ?_
                  refine lv_dup hx hb dX5_advance_134 rfl ?_
                  refine k_get hC hK hP iX5 0 2 wf_X5_19 rfl (by decide) rfl rfl dX5_advance_135 ?_
                  refine lv_iconst (v := 1) hx hb dX5_advance_138 (by decide) ?_
                  refine lv_iadd hx hb dX5_advance_139 ?_
                  refine t_i (fun q => q.toInt = h1.toInt + 1) (add_i (by show (-2147483648 : Int) ≤ h1.toInt + 1; omega) (by show h1.toInt + 1 ≤ (2147483647 : Int); omega)) (fun z37 tz37 => ?_)
                  refine k_put hC hK hP hD hS iX5 tyX5_ok nmX5 0 2 wf_X5_19 rfl (by decide) rfl rfl rfl rfl (Nat.le_of_ble_eq_true rfl) dX5_advance_140 (fun H locs hP hD hS => ?_)
                  have hP : va_P G cl [(a0, .inr (5, [.ref a1, .int v_tp_1, .int z37, .int h1, .int 4, .long w_tp_5, .int v_tp_6])), (a1, .inl (cB, 1300, .inl g_tp_bytes))] H := hP
                  have hD : va_D A [(a0, .inr (5, [.ref a1, .int v_tp_1, .int z37, .int h1, .int 4, .long w_tp_5, .int v_tp_6])), (a1, .inl (cB, 1300, .inl g_tp_bytes))] := hD
                  have l_l38 : (4 : Int32).toInt = 4 := rfl
                  rw [← hQm]
                  exact k_vret hC hr hlk hK hP hD hS (z37, h1, 4, w_tp_5, v_tp_6) [0, 1] rfl (by decide +kernel) (show 0 ≤ z37.toInt ∧ z37.toInt ≤ 1300 ∧ 0 ≤ h1.toInt ∧ h1.toInt ≤ 1300 ∧ 0 ≤ (4 : Int32).toInt ∧ (4 : Int32).toInt ≤ 4 from by omega) (Nat.le_of_ble_eq_true rfl) (Nat.le_of_ble_eq_true rfl) dX5_advance_143
                · have dc36 : z35.toInt = 59 := (fa_eq _ _).mp c36
                  refine lv_iconst (v := 3) hx hb dX5_advance_125 (by decide) ?_
                  refine lv_goto (tgt := 130) hx hb dX5_advance_126 (by decide) ?_
                  refine k_put hC hK hP hD hS iX5 tyX5_ok nmX5 0 4 wf_X5_25 rfl (by decide) rfl rfl rfl rfl (Nat.le_of_ble_eq_true rfl) dX5_advance_130 (fun H locs hP hD hS => ?_)
                  have hP : va_P G cl [(a0, .inr (5, [.ref a1, .int v_tp_1, .int h1, .int h1, .int 3, .long w_tp_5, .int v_tp_6])), (a1, .inl (cB, 1300, .inl g_tp_bytes))] H := hP
                  have hD : va_D A [(a0, .inr (5, [.ref a1, .int v_tp_1, .int h1, .int h1, .int 3, .long w_tp_5, .int v_tp_6])), (a1, .inl (cB, 1300, .inl g_tp_bytes))] := hD
                  refine lv_aload_n hx hb dX5_advance_133 rfl (lv_at hl 0 rfl) ?_
                  refine lv_dup hx hb dX5_advance_134 rfl ?_
                  refine k_get hC hK hP iX5 0 2 wf_X5_19 rfl (by decide) rfl rfl dX5_advance_135 ?_
                  refine lv_iconst (v := 1) hx hb dX5_advance_138 (by decide) ?_
                  refine lv_iadd hx hb dX5_advance_139 ?_
                  refine t_i (fun q => q.toInt = h1.toInt + 1) (add_i (by show (-2147483648 : Int) ≤ h1.toInt + 1; omega) (by show h1.toInt + 1 ≤ (2147483647 : Int); omega)) (fun z39 tz39 => ?_)
                  refine k_put hC hK hP hD hS iX5 tyX5_ok nmX5 0 2 wf_X5_19 rfl (by decide) rfl rfl rfl rfl (Nat.le_of_ble_eq_true rfl) dX5_advance_140 (fun H locs hP hD hS => ?_)
                  have hP : va_P G cl [(a0, .inr (5, [.ref a1, .int v_tp_1, .int z39, .int h1, .int 3, .long w_tp_5, .int v_tp_6])), (a1, .inl (cB, 1300, .inl g_tp_bytes))] H := hP
                  have hD : va_D A [(a0, .inr (5, [.ref a1, .int v_tp_1, .int z39, .int h1, .int 3, .long w_tp_5, .int v_tp_6])), (a1, .inl (cB, 1300, .inl g_tp_bytes))] := hD
                  have l_l40 : (3 : Int32).toInt = 3 := rfl
                  rw [← hQm]
                  exact k_vret hC hr hlk hK hP hD hS (z39, h1, 3, w_tp_5, v_tp_6) [0, 1] rfl (by decide +kernel) (show 0 ≤ z39.toInt ∧ z39.toInt ≤ 1300 ∧ 0 ≤ h1.toInt ∧ h1.toInt ≤ 1300 ∧ 0 ≤ (3 : Int32).toInt ∧ (3 : Int32).toInt ≤ 4 from by omega) (Nat.le_of_ble_eq_true rfl) (Nat.le_of_ble_eq_true rfl) dX5_advance_143
              · have dc34 : r33.toInt ≠ 0 := fa_ne c34
                refine lv_aload_n hx hb dX5_advance_103 rfl (lv_at hl 0 rfl) ?_
                refine k_cv (wr := []) (k_rV hC hN hZ hS hA hK hP hD (c18_X5_scanNumber l G cI cJ cB cZ a0 a1 v_tp_1 h1 h1 v_tp_4 w_tp_5 v_tp_6 g_tp_bytes hv_0 hv_1 (by omega) (by omega) hT_g_tp_bytes) [0, 1] rfl (by decide +kernel) mi_X5_scanNumber in_X5_scanNumber se_X5_scanNumber wm_X5_51 5 0 rfl rfl rfl hl.1 rfl rfl (Nat.le_of_ble_eq_true rfl) ⟨(Nat.le_of_ble_eq_true rfl), (Nat.le_of_ble_eq_true rfl)⟩ dX5_advance_104 ⟨(Nat.le_of_ble_eq_true rfl), (Nat.le_of_ble_eq_true rfl)⟩) hP hD hS hA [0, 1] [] rfl rfl (by decide +kernel) (by decide +kernel) (fun u41 H locs hp hP hD hS => ?_)
                obtain ⟨h42, h43, h44⟩ := u41
                have hp : (0 ≤ h42.toInt ∧ h42.toInt ≤ 1300 ∧ 2 ≤ h43.toInt ∧ h43.toInt ≤ 4) := hp
                have hP : va_P G cl [(a0, .inr (5, [.ref a1, .int v_tp_1, .int h42, .int h1, .int h43, .long w_tp_5, .int h44])), (a1, .inl (cB, 1300, .inl g_tp_bytes))] H := hP
                have hD : va_D A [(a0, .inr (5, [.ref a1, .int v_tp_1, .int h42, .int h1, .int h43, .long w_tp_5, .int h44])), (a1, .inl (cB, 1300, .inl g_tp_bytes))] := hD
                have hq41 := hp
                refine lv_goto (tgt := 143) hx hb dX5_advance_107 (by decide) ?_
                rw [← hQm]
                exact k_vret hC hr hlk hK hP hD hS (h42, h1, h43, w_tp_5, h44) [0, 1] rfl (by decide +kernel) (show 0 ≤ h42.toInt ∧ h42.toInt ≤ 1300 ∧ 0 ≤ h1.toInt ∧ h1.toInt ≤ 1300 ∧ 0 ≤ h43.toInt ∧ h43.toInt ≤ 4 from by omega) (Nat.le_of_ble_eq_true rfl) (Nat.le_of_ble_eq_true rfl) dX5_advance_143
            · have dc31 : r30.toInt ≠ 0 := fa_ne c31
              refine lv_aload_n hx hb dX5_advance_81 rfl (lv_at hl 0 rfl) ?_
              refine k_cv (wr := []) (k_rV hC hN hZ hS hA hK hP hD (c19_X5_scanWord l G cI cJ cB cZ a0 a1 v_tp_1 h1 h1 v_tp_4 w_tp_5 v_tp_6 g_tp_bytes hv_0 hv_1 (by omega) (by omega) hT_g_tp_bytes) [0, 1] rfl (by decide +kernel) mi_X5_scanWord in_X5_scanWord se_X5_scanWord wm_X5_45 5 0 rfl rfl rfl hl.1 rfl rfl (Nat.le_of_ble_eq_true rfl) ⟨(Nat.le_of_ble_eq_true rfl), (Nat.le_of_ble_eq_true rfl)⟩ dX5_advance_82 ⟨(Nat.le_of_ble_eq_true rfl), (Nat.le_of_ble_eq_true rfl)⟩) hP hD hS hA [0, 1] [] rfl rfl (by decide +kernel) (by decide +kernel) (fun u45 H locs hp hP hD hS => ?_)
              obtain ⟨h46, h47, y48⟩ := u45
              have hp : (0 ≤ h46.toInt ∧ h46.toInt ≤ 1300 ∧ 1 ≤ h47.toInt ∧ h47.toInt ≤ 4) := hp
              have hP : va_P G cl [(a0, .inr (5, [.ref a1, .int v_tp_1, .int h46, .int h1, .int h47, .long y48, .int v_tp_6])), (a1, .inl (cB, 1300, .inl g_tp_bytes))] H := hP
              have hD : va_D A [(a0, .inr (5, [.ref a1, .int v_tp_1, .int h46, .int h1, .int h47, .long y48, .int v_tp_6])), (a1, .inl (cB, 1300, .inl g_tp_bytes))] := hD
              have hq45 := hp
              refine lv_goto (tgt := 143) hx hb dX5_advance_85 (by decide) ?_
              rw [← hQm]
              exact k_vret hC hr hlk hK hP hD hS (h46, h1, h47, y48, v_tp_6) [0, 1] rfl (by decide +kernel) (show 0 ≤ h46.toInt ∧ h46.toInt ≤ 1300 ∧ 0 ≤ h1.toInt ∧ h1.toInt ≤ 1300 ∧ 0 ≤ h47.toInt ∧ h47.toInt ≤ 4 from by omega) (Nat.le_of_ble_eq_true rfl) (Nat.le_of_ble_eq_true rfl) dX5_advance_143
          · have dc28 : v_tp_1.toInt ≤ h1.toInt := fa_nlt c28
            refine lv_aload_n hx hb dX5_advance_58 rfl (lv_at hl 0 rfl) ?_
            refine lv_iconst (v := 0) hx hb dX5_advance_59 (by decide) ?_
            refine k_put hC hK hP hD hS iX5 tyX5_ok nmX5 0 4 wf_X5_25 rfl (by decide) rfl rfl rfl rfl (Nat.le_of_ble_eq_true rfl) dX5_advance_60 (fun H locs hP hD hS => ?_)
            have hP : va_P G cl [(a0, .inr (5, [.ref a1, .int v_tp_1, .int h1, .int h1, .int 0, .long w_tp_5, .int v_tp_6])), (a1, .inl (cB, 1300, .inl g_tp_bytes))] H := hP
            have hD : va_D A [(a0, .inr (5, [.ref a1, .int v_tp_1, .int h1, .int h1, .int 0, .long w_tp_5, .int v_tp_6])), (a1, .inl (cB, 1300, .inl g_tp_bytes))] := hD
            refine lv_goto (tgt := 143) hx hb dX5_advance_63 (by decide) ?_
            have l_l49 : (0 : Int32).toInt = 0 := rfl
            rw [← hQm]
            exact k_vret hC hr hlk hK hP hD hS (h1, h1, 0, w_tp_5, v_tp_6) [0, 1] rfl (by decide +kernel) (show 0 ≤ h1.toInt ∧ h1.toInt ≤ 1300 ∧ 0 ≤ h1.toInt ∧ h1.toInt ≤ 1300 ∧ 0 ≤ (0 : Int32).toInt ∧ (0 : Int32).toInt ≤ 4 from by omega) (Nat.le_of_ble_eq_true rfl) (Nat.le_of_ble_eq_true rfl) dX5_advance_143
        · have dc27 : r26.toInt ≠ 0 := fa_ne c27
          refine lv_aload_n hx hb dX5_advance_26 rfl (lv_at hl 0 rfl) ?_
          refine lv_dup hx hb dX5_advance_27 rfl ?_
          refine k_get hC hK hP iX5 0 2 wf_X5_19 rfl (by decide) rfl rfl dX5_advance_28 ?_
          refine lv_iconst (v := 1) hx hb dX5_advance_31 (by decide) ?_
          refine lv_iadd hx hb dX5_advance_32 ?_
          refine t_i (fun q => q.toInt = h1.toInt + 1) (add_i (by show (-2147483648 : Int) ≤ h1.toInt + 1; omega) (by show h1.toInt + 1 ≤ (2147483647 : Int); omega)) (fun z50 tz50 => ?_)
          refine k_put hC hK hP hD hS iX5 tyX5_ok nmX5 0 2 wf_X5_19 rfl (by decide) rfl rfl rfl rfl (Nat.le_of_ble_eq_true rfl) dX5_advance_33 (fun H locs hP hD hS => ?_)
          have hP : va_P G cl [(a0, .inr (5, [.ref a1, .int v_tp_1, .int z50, .int v_tp_3, .int v_tp_4, .long w_tp_5, .int v_tp_6])), (a1, .inl (cB, 1300, .inl g_tp_bytes))] H := hP
          have hD : va_D A [(a0, .inr (5, [.ref a1, .int v_tp_1, .int z50, .int v_tp_3, .int v_tp_4, .long w_tp_5, .int v_tp_6])), (a1, .inl (cB, 1300, .inl g_tp_bytes))] := hD
          refine lv_goto (tgt := 0) hx hb dX5_advance_36 (by decide) ?_
          exact ih  z50 H locs ls (by omega) (by omega) (hP.subm [0, 1] rfl) (hD.sub [0, 1] (by decide +kernel) rfl) hS (lv_sub hl [0] rfl)
  exact L_0 1301 v_tp_2 H locs ls (by omega) (by omega) (hP.subm [0, 1] rfl) (hD.sub [0, 1] (by decide +kernel) rfl) hS (lv_sub hl [0] rfl)
theorem dX5_isWord_0 : decode cX5_isWord 0 = .ok (.aload_n 0, 1) := by decide +kernel
theorem dX5_isWord_1 : decode cX5_isWord 1 = .ok (.getfield 25, 3) := by decide +kernel
theorem dX5_isWord_4 : decode cX5_isWord 4 = .ok (.iconst 1, 1) := by decide +kernel
theorem dX5_isWord_5 : decode cX5_isWord 5 = .ok (.if_icmp .ne 16, 3) := by decide +kernel
theorem dX5_isWord_21 : decode cX5_isWord 21 = .ok (.iconst 0, 1) := by decide +kernel
theorem dX5_isWord_22 : decode cX5_isWord 22 = .ok (.ireturn, 1) := by decide +kernel
theorem dX5_isWord_8 : decode cX5_isWord 8 = .ok (.aload_n 0, 1) := by decide +kernel
theorem dX5_isWord_9 : decode cX5_isWord 9 = .ok (.getfield 28, 3) := by decide +kernel
theorem dX5_isWord_12 : decode cX5_isWord 12 = .ok (.lload_n 1, 1) := by decide +kernel
theorem dX5_isWord_13 : decode cX5_isWord 13 = .ok (.lcmp, 1) := by decide +kernel
theorem dX5_isWord_14 : decode cX5_isWord 14 = .ok (.ifCond .ne 7, 3) := by decide +kernel
theorem dX5_isWord_17 : decode cX5_isWord 17 = .ok (.iconst 1, 1) := by decide +kernel
theorem dX5_isWord_18 : decode cX5_isWord 18 = .ok (.goto 4, 3) := by decide +kernel
set_option maxHeartbeats 4000000 in
set_option maxRecDepth 100000 in
theorem c21_X5_isWord (l : Launch) (G : va_G) (cI cJ cB cZ : ClassId) (a0 a1 : Nat) (b1 : Int64) (v_tp_1 : Int32) (v_tp_2 : Int32) (v_tp_3 : Int32) (v_tp_4 : Int32) (w_tp_5 : Int64) (v_tp_6 : Int32) (hv_0 : 0 ≤ v_tp_1.toInt) (hv_1 : v_tp_1.toInt ≤ 1300) (hv_2 : 0 ≤ v_tp_2.toInt) (hv_3 : v_tp_2.toInt ≤ 1300) : Con l G (TY cI cJ cB cZ) yX5_isWord cX5_isWord 3 (some .boolean) ({ frames := 0, cells := 0, slots := 0, locals := 0 } : Room) [.ref a0, .long b1] [(a0, .inr (5, [.ref a1, .int v_tp_1, .int v_tp_2, .int v_tp_3, .int v_tp_4, .long w_tp_5, .int v_tp_6]))] (QI G (TY cI cJ cB cZ) (fun (r : Int32) (u : Unit) => (0 ≤ r.toInt ∧ r.toInt ≤ 1)) (fun u : Unit => [(a0, .inr (5, [.ref a1, .int v_tp_1, .int v_tp_2, .int v_tp_3, .int v_tp_4, .long w_tp_5, .int v_tp_6]))])) := by
  refine k_met (by decide) (Nat.le_of_ble_eq_true rfl) ?_
  intro p e s m below meth c A ls hC hr hlk hnm hN hZ hK hA hP hD hS hl
  have hl : lv_has ls 3 [(0, .ref a0), (1, .long b1)] := hl
  generalize hQm : MQ below _ _ s _ _ A = Qm
  generalize (List.toArray _ : Array Value) = args at hC hQm ⊢
  obtain ⟨hx, hb, hml, hown, hts⟩ := id hC
  obtain ⟨H, hH⟩ : ∃ q, q = s.heap := ⟨_, rfl⟩
  obtain ⟨locs, hlo⟩ : ∃ q : List Loc, q = [] := ⟨_, rfl⟩
  have hP : va_P G cl [(a0, .inr (5, [.ref a1, .int v_tp_1, .int v_tp_2, .int v_tp_3, .int v_tp_4, .long w_tp_5, .int v_tp_6]))] H := by rw [hH]; exact hP
  have hS : va_S A s.heap H locs := by rw [hH, hlo]; exact hS
  rw [← hlo]
  rw [← hH]
  refine lv_aload_n hx hb dX5_isWord_0 rfl (lv_at hl 0 rfl) ?_
  refine k_get hC hK hP iX5 0 4 wf_X5_25 rfl (by decide) rfl rfl dX5_isWord_1 ?_
  refine lv_iconst (v := 1) hx hb dX5_isWord_4 (by decide) ?_
  refine lv_icmp_ne (tgt := 21) hx hb dX5_isWord_5 (by decide) (fun c1 => ?_) (fun c1 => ?_)
  · have dc1 : v_tp_4.toInt ≠ 1 := fa_ne c1; have lbc1_0 := i_lo v_tp_4; have ubc1_0 := i_hi v_tp_4
    refine lv_iconst (v := 0) hx hb dX5_isWord_21 (by decide) ?_
    have l_l2 : (0 : Int32).toInt = 0 := rfl
    rw [← hQm]
    exact k_zret hC hr hlk hK hP hD hS () [0] rfl (by decide +kernel) rfl (show 0 ≤ (0 : Int32).toInt ∧ (0 : Int32).toInt ≤ 1 from by omega) (Nat.le_of_ble_eq_true rfl) (Nat.le_of_ble_eq_true rfl) dX5_isWord_22
  · have dc1 : v_tp_4.toInt = 1 := (fa_eq _ _).mp c1; have lbc1_0 := i_lo v_tp_4; have ubc1_0 := i_hi v_tp_4
    refine lv_aload_n hx hb dX5_isWord_8 rfl (lv_at hl 0 rfl) ?_
    refine k_get hC hK hP iX5 0 5 wf_X5_28 rfl (by decide) rfl rfl dX5_isWord_9 ?_
    refine lv_lload_n hx hb dX5_isWord_12 rfl (lv_at hl 1 rfl) ?_
    refine W.lcmp hx hb dX5_isWord_13 ?_
    refine lv_topi (fun z3 _ => ?_)
    refine lv_if_ne (tgt := 21) hx hb dX5_isWord_14 (by decide) (fun c4 => ?_) (fun c4 => ?_)
    · have dc4 : z3.toInt ≠ 0 := fa_ne c4; have lbc4_0 := i_lo z3; have ubc4_0 := i_hi z3
      refine lv_iconst (v := 0) hx hb dX5_isWord_21 (by decide) ?_
      have l_l5 : (0 : Int32).toInt = 0 := rfl
      rw [← hQm]
      exact k_zret hC hr hlk hK hP hD hS () [0] rfl (by decide +kernel) rfl (show 0 ≤ (0 : Int32).toInt ∧ (0 : Int32).toInt ≤ 1 from by omega) (Nat.le_of_ble_eq_true rfl) (Nat.le_of_ble_eq_true rfl) dX5_isWord_22
    · have dc4 : z3.toInt = 0 := (fa_eq _ _).mp c4; have lbc4_0 := i_lo z3; have ubc4_0 := i_hi z3
      refine lv_iconst (v := 1) hx hb dX5_isWord_17 (by decide) ?_
      refine lv_goto (tgt := 22) hx hb dX5_isWord_18 (by decide) ?_
      have l_l6 : (1 : Int32).toInt = 1 := rfl
      rw [← hQm]
      exact k_zret hC hr hlk hK hP hD hS () [0] rfl (by decide +kernel) rfl (show 0 ≤ (1 : Int32).toInt ∧ (1 : Int32).toInt ≤ 1 from by omega) (Nat.le_of_ble_eq_true rfl) (Nat.le_of_ble_eq_true rfl) dX5_isWord_22
theorem dX5_rewind_0 : decode cX5_rewind 0 = .ok (.aload_n 0, 1) := by decide +kernel
theorem dX5_rewind_1 : decode cX5_rewind 1 = .ok (.iconst 0, 1) := by decide +kernel
theorem dX5_rewind_2 : decode cX5_rewind 2 = .ok (.putfield 19, 3) := by decide +kernel
theorem dX5_rewind_5 : decode cX5_rewind 5 = .ok (.aload_n 0, 1) := by decide +kernel
theorem dX5_rewind_6 : decode cX5_rewind 6 = .ok (.invokevirtual 35, 3) := by decide +kernel
set_option maxRecDepth 100000 in
theorem wm_X5_35 : Cond.methodLink RX5 35 yX5_advance ∈ gw := gm (List.mem_of_getElem? (i := 592) (by decide +kernel)) rfl
set_option maxRecDepth 100000 in
theorem mi_X5_advance : MI yX5_advance cX5_advance 1 none 0 := ⟨gm (List.mem_of_getElem? (i := 595) rfl) rfl, gm (List.mem_of_getElem? (i := 119) (by decide +kernel)) rfl, by decide, by decide, by decide +kernel⟩
set_option maxRecDepth 100000 in
theorem in_X5_advance : Cond.instanceMethod yX5_advance ∈ gw := gm (List.mem_of_getElem? (i := 593) (by decide +kernel)) rfl
set_option maxRecDepth 100000 in
theorem se_X5_advance : Cond.selects yX5_advance.cls yX5_advance yX5_advance ∈ gw := gm (List.mem_of_getElem? (i := 594) (by decide +kernel)) rfl
theorem dX5_rewind_9 : decode cX5_rewind 9 = .ok (.return_, 1) := by decide +kernel
set_option maxHeartbeats 4000000 in
set_option maxRecDepth 100000 in
theorem c22_X5_rewind (l : Launch) (G : va_G) (cI cJ cB cZ : ClassId) (a0 a1 : Nat) (v_tp_1 : Int32) (v_tp_2 : Int32) (v_tp_3 : Int32) (v_tp_4 : Int32) (w_tp_5 : Int64) (v_tp_6 : Int32) (g_tp_bytes : Nat → Int32) (hv_0 : 0 ≤ v_tp_1.toInt) (hv_1 : v_tp_1.toInt ≤ 1300) (hv_2 : 0 ≤ v_tp_2.toInt) (hv_3 : v_tp_2.toInt ≤ 1300) (hT_g_tp_bytes : TA (-128) 127 g_tp_bytes) : Con l G (TY cI cJ cB cZ) yX5_rewind cX5_rewind 1 none ({ frames := 3, cells := 0, slots := 0, locals := 61 } : Room) [.ref a0] [(a0, .inr (5, [.ref a1, .int v_tp_1, .int v_tp_2, .int v_tp_3, .int v_tp_4, .long w_tp_5, .int v_tp_6])), (a1, .inl (cB, 1300, .inl g_tp_bytes))] (QV G (TY cI cJ cB cZ) (fun u : Int32 × Int32 × Int32 × Int64 × Int32 => (0 ≤ u.1.toInt ∧ u.1.toInt ≤ 1300 ∧ 0 ≤ u.2.1.toInt ∧ u.2.1.toInt ≤ 1300 ∧ 0 ≤ u.2.2.1.toInt ∧ u.2.2.1.toInt ≤ 4)) (fun u : Int32 × Int32 × Int32 × Int64 × Int32 => [(a0, .inr (5, [.ref a1, .int v_tp_1, .int u.1, .int u.2.1, .int u.2.2.1, .long u.2.2.2.1, .int u.2.2.2.2])), (a1, .inl (cB, 1300, .inl g_tp_bytes))])) := by
  refine k_met (by decide) (Nat.le_of_ble_eq_true rfl) ?_
  intro p e s m below meth c A ls hC hr hlk hnm hN hZ hK hA hP hD hS hl
  have hl : lv_has ls 1 [(0, .ref a0)] := hl
  generalize hQm : MQ below _ _ s _ _ A = Qm
  generalize (List.toArray _ : Array Value) = args at hC hQm ⊢
  obtain ⟨hx, hb, hml, hown, hts⟩ := id hC
  obtain ⟨H, hH⟩ : ∃ q, q = s.heap := ⟨_, rfl⟩
  obtain ⟨locs, hlo⟩ : ∃ q : List Loc, q = [] := ⟨_, rfl⟩
  have hP : va_P G cl [(a0, .inr (5, [.ref a1, .int v_tp_1, .int v_tp_2, .int v_tp_3, .int v_tp_4, .long w_tp_5, .int v_tp_6])), (a1, .inl (cB, 1300, .inl g_tp_bytes))] H := by rw [hH]; exact hP
  have hS : va_S A s.heap H locs := by rw [hH, hlo]; exact hS
  rw [← hlo]
  rw [← hH]
  refine lv_aload_n hx hb dX5_rewind_0 rfl (lv_at hl 0 rfl) ?_
  refine lv_iconst (v := 0) hx hb dX5_rewind_1 (by decide) ?_
  refine k_put hC hK hP hD hS iX5 tyX5_ok nmX5 0 2 wf_X5_19 rfl (by decide) rfl rfl rfl rfl (Nat.le_of_ble_eq_true rfl) dX5_rewind_2 (fun H locs hP hD hS => ?_)
  have hP : va_P G cl [(a0, .inr (5, [.ref a1, .int v_tp_1, .int 0, .int v_tp_3, .int v_tp_4, .long w_tp_5, .int v_tp_6])), (a1, .inl (cB, 1300, .inl g_tp_bytes))] H := hP
  have hD : va_D A [(a0, .inr (5, [.ref a1, .int v_tp_1, .int 0, .int v_tp_3, .int v_tp_4, .long w_tp_5, .int v_tp_6])), (a1, .inl (cB, 1300, .inl g_tp_bytes))] := hD
  refine lv_aload_n hx hb dX5_rewind_5 rfl (lv_at hl 0 rfl) ?_
  have l_l2 : (0 : Int32).toInt = 0 := rfl
  refine k_cv (wr := []) (k_rV hC hN hZ hS hA hK hP hD (c20_X5_advance l G cI cJ cB cZ a0 a1 v_tp_1 0 v_tp_3 v_tp_4 w_tp_5 v_tp_6 g_tp_bytes hv_0 hv_1 (by omega) (by omega) hT_g_tp_bytes) [0, 1] rfl (by decide +kernel) mi_X5_advance in_X5_advance se_X5_advance wm_X5_35 5 0 rfl rfl rfl hl.1 rfl rfl (Nat.le_of_ble_eq_true rfl) ⟨(Nat.le_of_ble_eq_true rfl), (Nat.le_of_ble_eq_true rfl)⟩ dX5_rewind_6 ⟨(Nat.le_of_ble_eq_true rfl), (Nat.le_of_ble_eq_true rfl)⟩) hP hD hS hA [0, 1] [] rfl rfl (by decide +kernel) (by decide +kernel) (fun u1 H locs hp hP hD hS => ?_)
  obtain ⟨h3, h4, h5, y6, h7⟩ := u1
  have hp : (0 ≤ h3.toInt ∧ h3.toInt ≤ 1300 ∧ 0 ≤ h4.toInt ∧ h4.toInt ≤ 1300 ∧ 0 ≤ h5.toInt ∧ h5.toInt ≤ 4) := hp
  have hP : va_P G cl [(a0, .inr (5, [.ref a1, .int v_tp_1, .int h3, .int h4, .int h5, .long y6, .int h7])), (a1, .inl (cB, 1300, .inl g_tp_bytes))] H := hP
  have hD : va_D A [(a0, .inr (5, [.ref a1, .int v_tp_1, .int h3, .int h4, .int h5, .long y6, .int h7])), (a1, .inl (cB, 1300, .inl g_tp_bytes))] := hD
  have hq1 := hp
  rw [← hQm]
  exact k_vret hC hr hlk hK hP hD hS (h3, h4, h5, y6, h7) [0, 1] rfl (by decide +kernel) (show 0 ≤ h3.toInt ∧ h3.toInt ≤ 1300 ∧ 0 ≤ h4.toInt ∧ h4.toInt ≤ 1300 ∧ 0 ≤ h5.toInt ∧ h5.toInt ≤ 4 from by omega) (Nat.le_of_ble_eq_true rfl) (Nat.le_of_ble_eq_true rfl) dX5_rewind_9

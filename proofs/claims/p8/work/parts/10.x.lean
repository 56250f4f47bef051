theorem dX2_stoneHere_0 : decode cX2_stoneHere 0 = .ok (.aload_n 0, 1) := by decide +kernel
theorem dX2_stoneHere_1 : decode cX2_stoneHere 1 = .ok (.getfield 12, 3) := by decide +kernel
theorem dX2_stoneHere_4 : decode cX2_stoneHere 4 = .ok (.invokevirtual 152, 3) := by decide +kernel
theorem dX2_stoneHere_7 : decode cX2_stoneHere 7 = .ok (.ifCond .ne 11, 3) := by decide +kernel
theorem dX2_stoneHere_18 : decode cX2_stoneHere 18 = .ok (.aload_n 0, 1) := by decide +kernel
theorem dX2_stoneHere_19 : decode cX2_stoneHere 19 = .ok (.getfield 21, 3) := by decide +kernel
theorem dX2_stoneHere_22 : decode cX2_stoneHere 22 = .ok (.aload_n 0, 1) := by decide +kernel
theorem dX2_stoneHere_23 : decode cX2_stoneHere 23 = .ok (.getfield 12, 3) := by decide +kernel
theorem dX2_stoneHere_26 : decode cX2_stoneHere 26 = .ok (.getfield 155, 3) := by decide +kernel
theorem dX2_stoneHere_29 : decode cX2_stoneHere 29 = .ok (.invokevirtual 159, 3) := by decide +kernel
theorem dX2_stoneHere_32 : decode cX2_stoneHere 32 = .ok (.istore_n 1, 1) := by decide +kernel
theorem dX2_stoneHere_33 : decode cX2_stoneHere 33 = .ok (.iload_n 1, 1) := by decide +kernel
theorem dX2_stoneHere_34 : decode cX2_stoneHere 34 = .ok (.ifCond .ge 9, 3) := by decide +kernel
theorem dX2_stoneHere_43 : decode cX2_stoneHere 43 = .ok (.iload_n 1, 1) := by decide +kernel
theorem dX2_stoneHere_44 : decode cX2_stoneHere 44 = .ok (.ireturn, 1) := by decide +kernel
theorem dX2_stoneHere_37 : decode cX2_stoneHere 37 = .ok (.aload_n 0, 1) := by decide +kernel
theorem dX2_stoneHere_38 : decode cX2_stoneHere 38 = .ok (.iconst 5, 1) := by decide +kernel
theorem dX2_stoneHere_39 : decode cX2_stoneHere 39 = .ok (.invokevirtual 100, 3) := by decide +kernel
theorem dX2_stoneHere_42 : decode cX2_stoneHere 42 = .ok (.pop, 1) := by decide +kernel
theorem dX2_stoneHere_10 : decode cX2_stoneHere 10 = .ok (.aload_n 0, 1) := by decide +kernel
theorem dX2_stoneHere_11 : decode cX2_stoneHere 11 = .ok (.iconst 2, 1) := by decide +kernel
theorem dX2_stoneHere_12 : decode cX2_stoneHere 12 = .ok (.invokevirtual 100, 3) := by decide +kernel
theorem dX2_stoneHere_15 : decode cX2_stoneHere 15 = .ok (.pop, 1) := by decide +kernel
theorem dX2_stoneHere_16 : decode cX2_stoneHere 16 = .ok (.iconst (-1), 1) := by decide +kernel
theorem dX2_stoneHere_17 : decode cX2_stoneHere 17 = .ok (.ireturn, 1) := by decide +kernel
set_option maxHeartbeats 4000000 in
set_option maxRecDepth 100000 in
theorem c65_X2_stoneHere (l : Launch) (G : va_G) (cI cJ cB cZ : ClassId) (a0 a1 a2 a3 a4 a5 a6 a7 a8 a9 a10 a11 a12 a13 a14 : Nat) (v_rd_2 : Int32) (v_rd_3 : Int32) (v_rd_4 : Int32) (v_rd_5 : Int32) (v_rd_6 : Int32) (v_rd_7 : Int32) (v_tp_1 : Int32) (v_tp_2 : Int32) (v_tp_3 : Int32) (v_tp_4 : Int32) (w_tp_5 : Int64) (v_tp_6 : Int32) (v_M_0 : Int32) (v_M_1 : Int32) (v_M_2 : Int32) (v_M_5 : Int32) (g_M_name : Nat → Int64) (hv_0 : 0 ≤ v_rd_3.toInt) (hv_1 : v_rd_3.toInt ≤ 1) (hv_2 : 0 ≤ v_rd_4.toInt) (hv_3 : v_rd_4.toInt ≤ 1) (hv_4 : 0 ≤ v_tp_1.toInt) (hv_5 : v_tp_1.toInt ≤ 1300) (hv_6 : 0 ≤ v_tp_2.toInt) (hv_7 : v_tp_2.toInt ≤ 1300) (hv_8 : 0 ≤ v_M_0.toInt) (hv_9 : v_M_0.toInt ≤ 110) (hv_10 : 0 ≤ v_M_1.toInt) (hv_11 : v_M_1.toInt ≤ 110) (hv_12 : 0 ≤ v_M_5.toInt) (hv_13 : v_M_5.toInt ≤ 6) : Con l G (TY cI cJ cB cZ) yX2_stoneHere cX2_stoneHere 2 (some .int) ({ frames := 1, cells := 0, slots := 0, locals := 23 } : Room) [.ref a0] [(a0, .inr (2, [.ref a1, .ref a2, .int v_rd_2, .int v_rd_3, .int v_rd_4, .int v_rd_5, .int v_rd_6, .int v_rd_7])), (a1, .inr (5, [.ref a3, .int v_tp_1, .int v_tp_2, .int v_tp_3, .int v_tp_4, .long w_tp_5, .int v_tp_6])), (a2, .inr (7, [.int v_M_0, .int v_M_1, .int v_M_2, .ref a4, .ref a5, .int v_M_5, .ref a6, .ref a7, .ref a8, .ref a9, .ref a10, .ref a11, .ref a12, .ref a13, .ref a14])), (a6, .inl (cJ, 6, .inr (.inl g_M_name)))] (QI G (TY cI cJ cB cZ) (fun (r : Int32) (u : Int32 × Int32) => ((-1) ≤ r.toInt ∧ r.toInt ≤ 5)) (fun u : Int32 × Int32 => [(a0, .inr (2, [.ref a1, .ref a2, .int v_rd_2, .int v_rd_3, .int v_rd_4, .int v_rd_5, .int u.1, .int u.2])), (a1, .inr (5, [.ref a3, .int v_tp_1, .int v_tp_2, .int v_tp_3, .int v_tp_4, .long w_tp_5, .int v_tp_6])), (a2, .inr (7, [.int v_M_0, .int v_M_1, .int v_M_2, .ref a4, .ref a5, .int v_M_5, .ref a6, .ref a7, .ref a8, .ref a9, .ref a10, .ref a11, .ref a12, .ref a13, .ref a14])), (a6, .inl (cJ, 6, .inr (.inl g_M_name)))])) := by
  refine k_met (by decide) (Nat.le_of_ble_eq_true rfl) ?_
  intro p e s m below meth c A ls hC hr hlk hnm hN hZ hK hA hP hD hS hl
  have hl : lv_has ls 2 [(0, .ref a0)] := hl
  generalize hQm : MQ below _ _ s _ _ A = Qm
  generalize (List.toArray _ : Array Value) = args at hC hQm ⊢
  obtain ⟨hx, hb, hml, hown, hts⟩ := id hC
  obtain ⟨H, hH⟩ : ∃ q, q = s.heap := ⟨_, rfl⟩
  obtain ⟨locs, hlo⟩ : ∃ q : List Loc, q = [] := ⟨_, rfl⟩
  have hP : va_P G cl [(a0, .inr (2, [.ref a1, .ref a2, .int v_rd_2, .int v_rd_3, .int v_rd_4, .int v_rd_5, .int v_rd_6, .int v_rd_7])), (a1, .inr (5, [.ref a3, .int v_tp_1, .int v_tp_2, .int v_tp_3, .int v_tp_4, .long w_tp_5, .int v_tp_6])), (a2, .inr (7, [.int v_M_0, .int v_M_1, .int v_M_2, .ref a4, .ref a5, .int v_M_5, .ref a6, .ref a7, .ref a8, .ref a9, .ref a10, .ref a11, .ref a12, .ref a13, .ref a14])), (a6, .inl (cJ, 6, .inr (.inl g_M_name)))] H := by rw [hH]; exact hP
  have hS : va_S A s.heap H locs := by rw [hH, hlo]; exact hS
  rw [← hlo]
  rw [← hH]
  refine lv_aload_n hx hb dX2_stoneHere_0 rfl (lv_at hl 0 rfl) ?_
  refine k_get hC hK hP iX2 0 0 wf_X2_12 rfl (by decide) rfl rfl dX2_stoneHere_1 ?_
  refine k_ci (wr := [(a0, .inr (2, [.ref a1, .ref a2, .int v_rd_2, .int v_rd_3, .int v_rd_4, .int v_rd_5, .int v_rd_6, .int v_rd_7])), (a2, .inr (7, [.int v_M_0, .int v_M_1, .int v_M_2, .ref a4, .ref a5, .int v_M_5, .ref a6, .ref a7, .ref a8, .ref a9, .ref a10, .ref a11, .ref a12, .ref a13, .ref a14])), (a6, .inl (cJ, 6, .inr (.inl g_M_name)))]) (k_rV hC hN hZ hS hA hK hP hD (c60_X5_isName l G cI cJ cB cZ a1 a3 v_tp_1 v_tp_2 v_tp_3 v_tp_4 w_tp_5 v_tp_6 hv_4 hv_5 hv_6 hv_7) [1] rfl (by decide +kernel) mi_X5_isName in_X5_isName se_X5_isName wm_X2_152 5 1 rfl rfl rfl hl.1 rfl rfl (Nat.le_of_ble_eq_true rfl) ⟨(Nat.le_of_ble_eq_true rfl), (Nat.le_of_ble_eq_true rfl)⟩ dX2_stoneHere_4 ⟨(Nat.le_of_ble_eq_true rfl), (Nat.le_of_ble_eq_true rfl)⟩) hP hD hS hA [1] [0, 2, 3] rfl rfl (by decide +kernel) (by decide +kernel) (fun r1 u1 H locs hp hP hD hS => ?_)
  have hp : (0 ≤ r1.toInt ∧ r1.toInt ≤ 1) := hp
  have hP : va_P G cl [(a0, .inr (2, [.ref a1, .ref a2, .int v_rd_2, .int v_rd_3, .int v_rd_4, .int v_rd_5, .int v_rd_6, .int v_rd_7])), (a2, .inr (7, [.int v_M_0, .int v_M_1, .int v_M_2, .ref a4, .ref a5, .int v_M_5, .ref a6, .ref a7, .ref a8, .ref a9, .ref a10, .ref a11, .ref a12, .ref a13, .ref a14])), (a6, .inl (cJ, 6, .inr (.inl g_M_name))), (a1, .inr (5, [.ref a3, .int v_tp_1, .int v_tp_2, .int v_tp_3, .int v_tp_4, .long w_tp_5, .int v_tp_6]))] H := hP
  have hD : va_D A [(a0, .inr (2, [.ref a1, .ref a2, .int v_rd_2, .int v_rd_3, .int v_rd_4, .int v_rd_5, .int v_rd_6, .int v_rd_7])), (a2, .inr (7, [.int v_M_0, .int v_M_1, .int v_M_2, .ref a4, .ref a5, .int v_M_5, .ref a6, .ref a7, .ref a8, .ref a9, .ref a10, .ref a11, .ref a12, .ref a13, .ref a14])), (a6, .inl (cJ, 6, .inr (.inl g_M_name))), (a1, .inr (5, [.ref a3, .int v_tp_1, .int v_tp_2, .int v_tp_3, .int v_tp_4, .long w_tp_5, .int v_tp_6]))] := hD
  have hq1 := hp
  refine lv_if_ne (tgt := 18) hx hb dX2_stoneHere_7 (by decide) (fun c2 => ?_) (fun c2 => ?_)
  · have dc2 : r1.toInt ≠ 0 := fa_ne c2
    refine lv_aload_n hx hb dX2_stoneHere_18 rfl (lv_at hl 0 rfl) ?_
    refine k_get hC hK hP iX2 0 1 wf_X2_21 rfl (by decide) rfl rfl dX2_stoneHere_19 ?_
    refine lv_aload_n hx hb dX2_stoneHere_22 rfl (lv_at hl 0 rfl) ?_
    refine k_get hC hK hP iX2 0 0 wf_X2_12 rfl (by decide) rfl rfl dX2_stoneHere_23 ?_
    refine k_getN hC hN hK hP iX5 3 5 wf_X2_155 rfl (by decide) rfl rfl dX2_stoneHere_26 ?_
    refine k_ci (wr := [(a0, .inr (2, [.ref a1, .ref a2, .int v_rd_2, .int v_rd_3, .int v_rd_4, .int v_rd_5, .int v_rd_6, .int v_rd_7])), (a1, .inr (5, [.ref a3, .int v_tp_1, .int v_tp_2, .int v_tp_3, .int v_tp_4, .long w_tp_5, .int v_tp_6]))]) (k_rV hC hN hZ hS hA hK hP hD (c25_X7_stoneOf l G cI cJ cB cZ a2 a4 a5 a6 a7 a8 a9 a10 a11 a12 a13 a14 w_tp_5 v_M_0 v_M_1 v_M_2 v_M_5 g_M_name hv_8 hv_9 hv_10 hv_11 hv_12 hv_13) [1, 2] rfl (by decide +kernel) mi_X7_stoneOf in_X7_stoneOf se_X7_stoneOf wm_X2_159 7 1 rfl rfl rfl hl.1 rfl rfl (Nat.le_of_ble_eq_true rfl) ⟨(Nat.le_of_ble_eq_true rfl), (Nat.le_of_ble_eq_true rfl)⟩ dX2_stoneHere_29 ⟨(Nat.le_of_ble_eq_true rfl), (Nat.le_of_ble_eq_true rfl)⟩) hP hD hS hA [1, 2] [0, 3] rfl rfl (by decide +kernel) (by decide +kernel) (fun r3 u3 H locs hp hP hD hS => ?_)
    have hp : ((-1) ≤ r3.toInt ∧ r3.toInt ≤ 5) := hp
    have hP : va_P G cl [(a0, .inr (2, [.ref a1, .ref a2, .int v_rd_2, .int v_rd_3, .int v_rd_4, .int v_rd_5, .int v_rd_6, .int v_rd_7])), (a1, .inr (5, [.ref a3, .int v_tp_1, .int v_tp_2, .int v_tp_3, .int v_tp_4, .long w_tp_5, .int v_tp_6])), (a2, .inr (7, [.int v_M_0, .int v_M_1, .int v_M_2, .ref a4, .ref a5, .int v_M_5, .ref a6, .ref a7, .ref a8, .ref a9, .ref a10, .ref a11, .ref a12, .ref a13, .ref a14])), (a6, .inl (cJ, 6, .inr (.inl g_M_name)))] H := hP
    have hD : va_D A [(a0, .inr (2, [.ref a1, .ref a2, .int v_rd_2, .int v_rd_3, .int v_rd_4, .int v_rd_5, .int v_rd_6, .int v_rd_7])), (a1, .inr (5, [.ref a3, .int v_tp_1, .int v_tp_2, .int v_tp_3, .int v_tp_4, .long w_tp_5, .int v_tp_6])), (a2, .inr (7, [.int v_M_0, .int v_M_1, .int v_M_2, .ref a4, .ref a5, .int v_M_5, .ref a6, .ref a7, .ref a8, .ref a9, .ref a10, .ref a11, .ref a12, .ref a13, .ref a14])), (a6, .inl (cJ, 6, .inr (.inl g_M_name)))] := hD
    have hq3 := hp
    refine lv_istore_n (lv' := [(1, .int r3), (0, .ref a0)]) hx hb dX2_stoneHere_32 rfl hl (by decide) rfl (fun ls hl => ?_)
    refine lv_iload_n hx hb dX2_stoneHere_33 rfl (lv_at hl 0 rfl) ?_
    refine lv_if_ge (tgt := 43) hx hb dX2_stoneHere_34 (by decide) (fun c4 => ?_) (fun c4 => ?_)
    · have dc4 : 0 ≤ r3.toInt := (fa_le _ _).mp c4
      refine lv_iload_n hx hb dX2_stoneHere_43 rfl (lv_at hl 0 rfl) ?_
      rw [← hQm]
      exact k_iret hC hr hlk hK hP hD hS (v_rd_6, v_rd_7) [0, 1, 2, 3] rfl (by decide +kernel) (show (-1) ≤ r3.toInt ∧ r3.toInt ≤ 5 from by omega) (Nat.le_of_ble_eq_true rfl) (Nat.le_of_ble_eq_true rfl) dX2_stoneHere_44
    · have dc4 : r3.toInt < 0 := fa_nle c4
      refine lv_aload_n hx hb dX2_stoneHere_37 rfl (lv_at hl 1 rfl) ?_
      refine lv_iconst (v := 5) hx hb dX2_stoneHere_38 (by decide) ?_
      have l_l6 : (5 : Int32).toInt = 5 := rfl
      refine k_ci (wr := [(a2, .inr (7, [.int v_M_0, .int v_M_1, .int v_M_2, .ref a4, .ref a5, .int v_M_5, .ref a6, .ref a7, .ref a8, .ref a9, .ref a10, .ref a11, .ref a12, .ref a13, .ref a14])), (a6, .inl (cJ, 6, .inr (.inl g_M_name)))]) (k_rV hC hN hZ hS hA hK hP hD (c47_X2_refuse l G cI cJ cB cZ a0 a1 a2 a3 5 v_rd_2 v_rd_3 v_rd_4 v_rd_5 v_rd_6 v_rd_7 v_tp_1 v_tp_2 v_tp_3 v_tp_4 w_tp_5 v_tp_6 hv_0 hv_1 hv_2 hv_3 hv_4 hv_5 hv_6 hv_7) [0, 1] rfl (by decide +kernel) mi_X2_refuse in_X2_refuse se_X2_refuse wm_X2_100 2 0 rfl rfl rfl hl.1 rfl rfl (Nat.le_of_ble_eq_true rfl) ⟨(Nat.le_of_ble_eq_true rfl), (Nat.le_of_ble_eq_true rfl)⟩ dX2_stoneHere_39 ⟨(Nat.le_of_ble_eq_true rfl), (Nat.le_of_ble_eq_true rfl)⟩) hP hD hS hA [0, 1] [2, 3] rfl rfl (by decide +kernel) (by decide +kernel) (fun r5 u5 H locs hp hP hD hS => ?_)
      obtain ⟨h7, h8⟩ := u5
      have hp : (r5 = 0 ∧ True) := hp
      obtain rfl : r5 = 0 := hp.1
      have hP : va_P G cl [(a2, .inr (7, [.int v_M_0, .int v_M_1, .int v_M_2, .ref a4, .ref a5, .int v_M_5, .ref a6, .ref a7, .ref a8, .ref a9, .ref a10, .ref a11, .ref a12, .ref a13, .ref a14])), (a6, .inl (cJ, 6, .inr (.inl g_M_name))), (a0, .inr (2, [.ref a1, .ref a2, .int v_rd_2, .int v_rd_3, .int v_rd_4, .int v_rd_5, .int h7, .int h8])), (a1, .inr (5, [.ref a3, .int v_tp_1, .int v_tp_2, .int v_tp_3, .int v_tp_4, .long w_tp_5, .int v_tp_6]))] H := hP
      have hD : va_D A [(a2, .inr (7, [.int v_M_0, .int v_M_1, .int v_M_2, .ref a4, .ref a5, .int v_M_5, .ref a6, .ref a7, .ref a8, .ref a9, .ref a10, .ref a11, .ref a12, .ref a13, .ref a14])), (a6, .inl (cJ, 6, .inr (.inl g_M_name))), (a0, .inr (2, [.ref a1, .ref a2, .int v_rd_2, .int v_rd_3, .int v_rd_4, .int v_rd_5, .int h7, .int h8])), (a1, .inr (5, [.ref a3, .int v_tp_1, .int v_tp_2, .int v_tp_3, .int v_tp_4, .long w_tp_5, .int v_tp_6]))] := hD
      have hq5 := hp
      refine lv_pop hx hb dX2_stoneHere_42 rfl ?_
      refine lv_iload_n hx hb dX2_stoneHere_43 rfl (lv_at hl 0 rfl) ?_
      rw [← hQm]
      exact k_iret hC hr hlk hK hP hD hS (h7, h8) [2, 3, 0, 1] rfl (by decide +kernel) (show (-1) ≤ r3.toInt ∧ r3.toInt ≤ 5 from by omega) (Nat.le_of_ble_eq_true rfl) (Nat.le_of_ble_eq_true rfl) dX2_stoneHere_44
  · have dc2 : r1.toInt = 0 := (fa_eq _ _).mp c2
    refine lv_aload_n hx hb dX2_stoneHere_10 rfl (lv_at hl 0 rfl) ?_
    refine lv_iconst (v := 2) hx hb dX2_stoneHere_11 (by decide) ?_
    have l_l10 : (2 : Int32).toInt = 2 := rfl
    refine k_ci (wr := [(a2, .inr (7, [.int v_M_0, .int v_M_1, .int v_M_2, .ref a4, .ref a5, .int v_M_5, .ref a6, .ref a7, .ref a8, .ref a9, .ref a10, .ref a11, .ref a12, .ref a13, .ref a14])), (a6, .inl (cJ, 6, .inr (.inl g_M_name)))]) (k_rV hC hN hZ hS hA hK hP hD (c47_X2_refuse l G cI cJ cB cZ a0 a1 a2 a3 2 v_rd_2 v_rd_3 v_rd_4 v_rd_5 v_rd_6 v_rd_7 v_tp_1 v_tp_2 v_tp_3 v_tp_4 w_tp_5 v_tp_6 hv_0 hv_1 hv_2 hv_3 hv_4 hv_5 hv_6 hv_7) [0, 3] rfl (by decide +kernel) mi_X2_refuse in_X2_refuse se_X2_refuse wm_X2_100 2 0 rfl rfl rfl hl.1 rfl rfl (Nat.le_of_ble_eq_true rfl) ⟨(Nat.le_of_ble_eq_true rfl), (Nat.le_of_ble_eq_true rfl)⟩ dX2_stoneHere_12 ⟨(Nat.le_of_ble_eq_true rfl), (Nat.le_of_ble_eq_true rfl)⟩) hP hD hS hA [0, 3] [1, 2] rfl rfl (by decide +kernel) (by decide +kernel) (fun r9 u9 H locs hp hP hD hS => ?_)
    obtain ⟨h11, h12⟩ := u9
    have hp : (r9 = 0 ∧ True) := hp
    obtain rfl : r9 = 0 := hp.1
    have hP : va_P G cl [(a2, .inr (7, [.int v_M_0, .int v_M_1, .int v_M_2, .ref a4, .ref a5, .int v_M_5, .ref a6, .ref a7, .ref a8, .ref a9, .ref a10, .ref a11, .ref a12, .ref a13, .ref a14])), (a6, .inl (cJ, 6, .inr (.inl g_M_name))), (a0, .inr (2, [.ref a1, .ref a2, .int v_rd_2, .int v_rd_3, .int v_rd_4, .int v_rd_5, .int h11, .int h12])), (a1, .inr (5, [.ref a3, .int v_tp_1, .int v_tp_2, .int v_tp_3, .int v_tp_4, .long w_tp_5, .int v_tp_6]))] H := hP
    have hD : va_D A [(a2, .inr (7, [.int v_M_0, .int v_M_1, .int v_M_2, .ref a4, .ref a5, .int v_M_5, .ref a6, .ref a7, .ref a8, .ref a9, .ref a10, .ref a11, .ref a12, .ref a13, .ref a14])), (a6, .inl (cJ, 6, .inr (.inl g_M_name))), (a0, .inr (2, [.ref a1, .ref a2, .int v_rd_2, .int v_rd_3, .int v_rd_4, .int v_rd_5, .int h11, .int h12])), (a1, .inr (5, [.ref a3, .int v_tp_1, .int v_tp_2, .int v_tp_3, .int v_tp_4, .long w_tp_5, .int v_tp_6]))] := hD
    have hq9 := hp
    refine lv_pop hx hb dX2_stoneHere_15 rfl ?_
    refine lv_iconst (v := (-1)) hx hb dX2_stoneHere_16 (by decide) ?_
    have l_l13 : ((-1) : Int32).toInt = (-1) := rfl
    rw [← hQm]
    exact k_iret hC hr hlk hK hP hD hS (h11, h12) [2, 3, 0, 1] rfl (by decide +kernel) (show (-1) ≤ ((-1) : Int32).toInt ∧ ((-1) : Int32).toInt ≤ 5 from by omega) (Nat.le_of_ble_eq_true rfl) (Nat.le_of_ble_eq_true rfl) dX2_stoneHere_17
set_option maxHeartbeats 4000000 in
set_option maxRecDepth 100000 in
theorem c66_X2_takeNumber (l : Launch) (G : va_G) (cI cJ cB cZ : ClassId) (a0 a1 a2 a3 : Nat) (v_rd_2 : Int32) (v_rd_3 : Int32) (v_rd_4 : Int32) (v_rd_5 : Int32) (v_rd_6 : Int32) (v_rd_7 : Int32) (v_tp_1 : Int32) (v_tp_2 : Int32) (v_tp_3 : Int32) (v_tp_4 : Int32) (w_tp_5 : Int64) (v_tp_6 : Int32) (g_tp_bytes : Nat → Int32) (hv_0 : 0 ≤ v_rd_3.toInt) (hv_1 : v_rd_3.toInt ≤ 1) (hv_2 : 0 ≤ v_rd_4.toInt) (hv_3 : v_rd_4.toInt ≤ 1) (hv_4 : 0 ≤ v_tp_1.toInt) (hv_5 : v_tp_1.toInt ≤ 1300) (hv_6 : 0 ≤ v_tp_2.toInt) (hv_7 : v_tp_2.toInt ≤ 1300) (hT_g_tp_bytes : TA (-128) 127 g_tp_bytes) : Con l G (TY cI cJ cB cZ) yX2_takeNumber cX2_takeNumber 3 (some .boolean) ({ frames := 3, cells := 0, slots := 0, locals := 61 } : Room) [.ref a0, .int 0, .int 400] [(a0, .inr (2, [.ref a1, .ref a2, .int v_rd_2, .int v_rd_3, .int v_rd_4, .int v_rd_5, .int v_rd_6, .int v_rd_7])), (a1, .inr (5, [.ref a3, .int v_tp_1, .int v_tp_2, .int v_tp_3, .int v_tp_4, .long w_tp_5, .int v_tp_6])), (a3, .inl (cB, 1300, .inl g_tp_bytes))] (QI G (TY cI cJ cB cZ) (fun (r : Int32) (u : Int32 × Int32 × Int32 × Int32 × Int32 × Int32 × Int64 × Int32) => (r = 0 ∧ (0 ≤ u.2.2.2.1.toInt ∧ u.2.2.2.1.toInt ≤ 1300)) ∨ (r = 1 ∧ (0 ≤ u.1.toInt ∧ u.1.toInt ≤ 400 ∧ 0 ≤ u.2.2.2.1.toInt ∧ u.2.2.2.1.toInt ≤ 1300 ∧ 0 ≤ u.2.2.2.2.1.toInt ∧ u.2.2.2.2.1.toInt ≤ 1300 ∧ 0 ≤ u.2.2.2.2.2.1.toInt ∧ u.2.2.2.2.2.1.toInt ≤ 4))) (fun u : Int32 × Int32 × Int32 × Int32 × Int32 × Int32 × Int64 × Int32 => [(a0, .inr (2, [.ref a1, .ref a2, .int u.1, .int v_rd_3, .int v_rd_4, .int v_rd_5, .int u.2.1, .int u.2.2.1])), (a1, .inr (5, [.ref a3, .int v_tp_1, .int u.2.2.2.1, .int u.2.2.2.2.1, .int u.2.2.2.2.2.1, .long u.2.2.2.2.2.2.1, .int u.2.2.2.2.2.2.2])), (a3, .inl (cB, 1300, .inl g_tp_bytes))])) := by
  refine k_met (by decide) (Nat.le_of_ble_eq_true rfl) ?_
  intro p e s m below meth c A ls hC hr hlk hnm hN hZ hK hA hP hD hS hl
  have hl : lv_has ls 3 [(0, .ref a0), (1, .int 0), (2, .int 400)] := hl
  generalize hQm : MQ below _ _ s _ _ A = Qm
  generalize (List.toArray _ : Array Value) = args at hC hQm ⊢
  obtain ⟨hx, hb, hml, hown, hts⟩ := id hC
  obtain ⟨H, hH⟩ : ∃ q, q = s.heap := ⟨_, rfl⟩
  obtain ⟨locs, hlo⟩ : ∃ q : List Loc, q = [] := ⟨_, rfl⟩
  have hP : va_P G cl [(a0, .inr (2, [.ref a1, .ref a2, .int v_rd_2, .int v_rd_3, .int v_rd_4, .int v_rd_5, .int v_rd_6, .int v_rd_7])), (a1, .inr (5, [.ref a3, .int v_tp_1, .int v_tp_2, .int v_tp_3, .int v_tp_4, .long w_tp_5, .int v_tp_6])), (a3, .inl (cB, 1300, .inl g_tp_bytes))] H := by rw [hH]; exact hP
  have hS : va_S A s.heap H locs := by rw [hH, hlo]; exact hS
  rw [← hlo]
  rw [← hH]
  refine lv_aload_n hx hb dX2_takeNumber_0 rfl (lv_at hl 0 rfl) ?_
  refine k_get hC hK hP iX2 0 0 wf_X2_12 rfl (by decide) rfl rfl dX2_takeNumber_1 ?_
  refine k_getN hC hN hK hP iX5 1 4 wf_X2_51 rfl (by decide) rfl rfl dX2_takeNumber_4 ?_
  refine lv_iconst (v := 2) hx hb dX2_takeNumber_7 (by decide) ?_
  refine lv_icmp_eq (tgt := 17) hx hb dX2_takeNumber_8 (by decide) (fun c1 => ?_) (fun c1 => ?_)
  · have dc1 : v_tp_4.toInt = 2 := (fa_eq _ _).mp c1; have lbc1_0 := i_lo v_tp_4; have ubc1_0 := i_hi v_tp_4
    refine lv_aload_n hx hb dX2_takeNumber_17 rfl (lv_at hl 0 rfl) ?_
    refine k_get hC hK hP iX2 0 0 wf_X2_12 rfl (by decide) rfl rfl dX2_takeNumber_18 ?_
    refine k_getN hC hN hK hP iX5 1 6 wf_X2_146 rfl (by decide) rfl rfl dX2_takeNumber_21 ?_
    refine lv_iload_n hx hb dX2_takeNumber_24 rfl (lv_at hl 1 rfl) ?_
    refine lv_icmp_lt (tgt := 39) hx hb dX2_takeNumber_25 (by decide) (fun c2 => ?_) (fun c2 => ?_)
    · have dc2 : v_tp_6.toInt < 0 := (fa_lt _ _).mp c2; have lbc2_0 := i_lo v_tp_6; have ubc2_0 := i_hi v_tp_6
      refine lv_aload_n hx hb dX2_takeNumber_39 rfl (lv_at hl 0 rfl) ?_
      refine lv_iconst (v := 4) hx hb dX2_takeNumber_40 (by decide) ?_
      have l_l4 : (4 : Int32).toInt = 4 := rfl
      refine k_ci (wr := [(a3, .inl (cB, 1300, .inl g_tp_bytes))]) (k_rV hC hN hZ hS hA hK hP hD (c47_X2_refuse l G cI cJ cB cZ a0 a1 a2 a3 4 v_rd_2 v_rd_3 v_rd_4 v_rd_5 v_rd_6 v_rd_7 v_tp_1 v_tp_2 v_tp_3 v_tp_4 w_tp_5 v_tp_6 hv_0 hv_1 hv_2 hv_3 hv_4 hv_5 hv_6 hv_7) [0, 1] rfl (by decide +kernel) mi_X2_refuse in_X2_refuse se_X2_refuse wm_X2_100 2 0 rfl rfl rfl hl.1 rfl rfl (Nat.le_of_ble_eq_true rfl) ⟨(Nat.le_of_ble_eq_true rfl), (Nat.le_of_ble_eq_true rfl)⟩ dX2_takeNumber_41 ⟨(Nat.le_of_ble_eq_true rfl), (Nat.le_of_ble_eq_true rfl)⟩) hP hD hS hA [0, 1] [2] rfl rfl (by decide +kernel) (by decide +kernel) (fun r3 u3 H locs hp hP hD hS => ?_)
      obtain ⟨h5, h6⟩ := u3
      have hp : (r3 = 0 ∧ True) := hp
      obtain rfl : r3 = 0 := hp.1
      have hP : va_P G cl [(a3, .inl (cB, 1300, .inl g_tp_bytes)), (a0, .inr (2, [.ref a1, .ref a2, .int v_rd_2, .int v_rd_3, .int v_rd_4, .int v_rd_5, .int h5, .int h6])), (a1, .inr (5, [.ref a3, .int v_tp_1, .int v_tp_2, .int v_tp_3, .int v_tp_4, .long w_tp_5, .int v_tp_6]))] H := hP
      have hD : va_D A [(a3, .inl (cB, 1300, .inl g_tp_bytes)), (a0, .inr (2, [.ref a1, .ref a2, .int v_rd_2, .int v_rd_3, .int v_rd_4, .int v_rd_5, .int h5, .int h6])), (a1, .inr (5, [.ref a3, .int v_tp_1, .int v_tp_2, .int v_tp_3, .int v_tp_4, .long w_tp_5, .int v_tp_6]))] := hD
      have hq3 := hp
      have l_l7 : (0 : Int32).toInt = 0 := rfl
      rw [← hQm]
      exact k_zret hC hr hlk hK hP hD hS (v_rd_2, h5, h6, v_tp_2, v_tp_3, v_tp_4, w_tp_5, v_tp_6) [1, 2, 0] rfl (by decide +kernel) rfl (Or.inl ⟨rfl, (show 0 ≤ v_tp_2.toInt ∧ v_tp_2.toInt ≤ 1300 from by omega)⟩) (Nat.le_of_ble_eq_true rfl) (Nat.le_of_ble_eq_true rfl) dX2_takeNumber_44
    · have dc2 : 0 ≤ v_tp_6.toInt := fa_nlt c2; have lbc2_0 := i_lo v_tp_6; have ubc2_0 := i_hi v_tp_6
      refine lv_aload_n hx hb dX2_takeNumber_28 rfl (lv_at hl 0 rfl) ?_
      refine k_get hC hK hP iX2 0 0 wf_X2_12 rfl (by decide) rfl rfl dX2_takeNumber_29 ?_
      refine k_getN hC hN hK hP iX5 1 6 wf_X2_146 rfl (by decide) rfl rfl dX2_takeNumber_32 ?_
      refine lv_iload_n hx hb dX2_takeNumber_35 rfl (lv_at hl 2 rfl) ?_
      refine lv_icmp_le (tgt := 45) hx hb dX2_takeNumber_36 (by decide) (fun c8 => ?_) (fun c8 => ?_)
      · have dc8 : v_tp_6.toInt ≤ 400 := (fa_le _ _).mp c8; have ubc8_0 := i_hi v_tp_6
        refine lv_aload_n hx hb dX2_takeNumber_45 rfl (lv_at hl 0 rfl) ?_
        refine lv_aload_n hx hb dX2_takeNumber_46 rfl (lv_at hl 0 rfl) ?_
        refine k_get hC hK hP iX2 0 0 wf_X2_12 rfl (by decide) rfl rfl dX2_takeNumber_47 ?_
        refine k_getN hC hN hK hP iX5 1 6 wf_X2_146 rfl (by decide) rfl rfl dX2_takeNumber_50 ?_
        refine k_put hC hK hP hD hS iX2 tyX2_ok nmX2 0 2 wf_X2_25 rfl (by decide) rfl rfl rfl rfl (Nat.le_of_ble_eq_true rfl) dX2_takeNumber_53 (fun H locs hP hD hS => ?_)
        have hP : va_P G cl [(a0, .inr (2, [.ref a1, .ref a2, .int v_tp_6, .int v_rd_3, .int v_rd_4, .int v_rd_5, .int v_rd_6, .int v_rd_7])), (a1, .inr (5, [.ref a3, .int v_tp_1, .int v_tp_2, .int v_tp_3, .int v_tp_4, .long w_tp_5, .int v_tp_6])), (a3, .inl (cB, 1300, .inl g_tp_bytes))] H := hP
        have hD : va_D A [(a0, .inr (2, [.ref a1, .ref a2, .int v_tp_6, .int v_rd_3, .int v_rd_4, .int v_rd_5, .int v_rd_6, .int v_rd_7])), (a1, .inr (5, [.ref a3, .int v_tp_1, .int v_tp_2, .int v_tp_3, .int v_tp_4, .long w_tp_5, .int v_tp_6])), (a3, .inl (cB, 1300, .inl g_tp_bytes))] := hD
        refine lv_aload_n hx hb dX2_takeNumber_56 rfl (lv_at hl 0 rfl) ?_
        refine k_get hC hK hP iX2 0 0 wf_X2_12 rfl (by decide) rfl rfl dX2_takeNumber_57 ?_
        refine k_cv (wr := [(a0, .inr (2, [.ref a1, .ref a2, .int v_tp_6, .int v_rd_3, .int v_rd_4, .int v_rd_5, .int v_rd_6, .int v_rd_7]))]) (k_rV hC hN hZ hS hA hK hP hD (c20_X5_advance l G cI cJ cB cZ a1 a3 v_tp_1 v_tp_2 v_tp_3 v_tp_4 w_tp_5 v_tp_6 g_tp_bytes hv_4 hv_5 hv_6 hv_7 hT_g_tp_bytes) [1, 2] rfl (by decide +kernel) mi_X5_advance in_X5_advance se_X5_advance wm_X2_104 5 1 rfl rfl rfl hl.1 rfl rfl (Nat.le_of_ble_eq_true rfl) ⟨(Nat.le_of_ble_eq_true rfl), (Nat.le_of_ble_eq_true rfl)⟩ dX2_takeNumber_60 ⟨(Nat.le_of_ble_eq_true rfl), (Nat.le_of_ble_eq_true rfl)⟩) hP hD hS hA [1, 2] [0] rfl rfl (by decide +kernel) (by decide +kernel) (fun u9 H locs hp hP hD hS => ?_)
        obtain ⟨h10, h11, h12, y13, h14⟩ := u9
        have hp : (0 ≤ h10.toInt ∧ h10.toInt ≤ 1300 ∧ 0 ≤ h11.toInt ∧ h11.toInt ≤ 1300 ∧ 0 ≤ h12.toInt ∧ h12.toInt ≤ 4) := hp
        have hP : va_P G cl [(a0, .inr (2, [.ref a1, .ref a2, .int v_tp_6, .int v_rd_3, .int v_rd_4, .int v_rd_5, .int v_rd_6, .int v_rd_7])), (a1, .inr (5, [.ref a3, .int v_tp_1, .int h10, .int h11, .int h12, .long y13, .int h14])), (a3, .inl (cB, 1300, .inl g_tp_bytes))] H := hP
        have hD : va_D A [(a0, .inr (2, [.ref a1, .ref a2, .int v_tp_6, .int v_rd_3, .int v_rd_4, .int v_rd_5, .int v_rd_6, .int v_rd_7])), (a1, .inr (5, [.ref a3, .int v_tp_1, .int h10, .int h11, .int h12, .long y13, .int h14])), (a3, .inl (cB, 1300, .inl g_tp_bytes))] := hD
        have hq9 := hp
        refine lv_iconst (v := 1) hx hb dX2_takeNumber_63 (by decide) ?_
        have l_l15 : (1 : Int32).toInt = 1 := rfl
        rw [← hQm]
        exact k_zret hC hr hlk hK hP hD hS (v_tp_6, v_rd_6, v_rd_7, h10, h11, h12, y13, h14) [0, 1, 2] rfl (by decide +kernel) rfl (Or.inr ⟨rfl, (show 0 ≤ v_tp_6.toInt ∧ v_tp_6.toInt ≤ 400 ∧ 0 ≤ h10.toInt ∧ h10.toInt ≤ 1300 ∧ 0 ≤ h11.toInt ∧ h11.toInt ≤ 1300 ∧ 0 ≤ h12.toInt ∧ h12.toInt ≤ 4 from by omega)⟩) (Nat.le_of_ble_eq_true rfl) (Nat.le_of_ble_eq_true rfl) dX2_takeNumber_64
      · have dc8 : 400 < v_tp_6.toInt := fa_nle c8; have ubc8_0 := i_hi v_tp_6
        refine lv_aload_n hx hb dX2_takeNumber_39 rfl (lv_at hl 0 rfl) ?_
        refine lv_iconst (v := 4) hx hb dX2_takeNumber_40 (by decide) ?_
        have l_l17 : (4 : Int32).toInt = 4 := rfl
        refine k_ci (wr := [(a3, .inl (cB, 1300, .inl g_tp_bytes))]) (k_rV hC hN hZ hS hA hK hP hD (c47_X2_refuse l G cI cJ cB cZ a0 a1 a2 a3 4 v_rd_2 v_rd_3 v_rd_4 v_rd_5 v_rd_6 v_rd_7 v_tp_1 v_tp_2 v_tp_3 v_tp_4 w_tp_5 v_tp_6 hv_0 hv_1 hv_2 hv_3 hv_4 hv_5 hv_6 hv_7) [0, 1] rfl (by decide +kernel) mi_X2_refuse in_X2_refuse se_X2_refuse wm_X2_100 2 0 rfl rfl rfl hl.1 rfl rfl (Nat.le_of_ble_eq_true rfl) ⟨(Nat.le_of_ble_eq_true rfl), (Nat.le_of_ble_eq_true rfl)⟩ dX2_takeNumber_41 ⟨(Nat.le_of_ble_eq_true rfl), (Nat.le_of_ble_eq_true rfl)⟩) hP hD hS hA [0, 1] [2] rfl rfl (by decide +kernel) (by decide +kernel) (fun r16 u16 H locs hp hP hD hS => ?_)
        obtain ⟨h18, h19⟩ := u16
        have hp : (r16 = 0 ∧ True) := hp
        obtain rfl : r16 = 0 := hp.1
        have hP : va_P G cl [(a3, .inl (cB, 1300, .inl g_tp_bytes)), (a0, .inr (2, [.ref a1, .ref a2, .int v_rd_2, .int v_rd_3, .int v_rd_4, .int v_rd_5, .int h18, .int h19])), (a1, .inr (5, [.ref a3, .int v_tp_1, .int v_tp_2, .int v_tp_3, .int v_tp_4, .long w_tp_5, .int v_tp_6]))] H := hP
        have hD : va_D A [(a3, .inl (cB, 1300, .inl g_tp_bytes)), (a0, .inr (2, [.ref a1, .ref a2, .int v_rd_2, .int v_rd_3, .int v_rd_4, .int v_rd_5, .int h18, .int h19])), (a1, .inr (5, [.ref a3, .int v_tp_1, .int v_tp_2, .int v_tp_3, .int v_tp_4, .long w_tp_5, .int v_tp_6]))] := hD
        have hq16 := hp
        have l_l20 : (0 : Int32).toInt = 0 := rfl
        rw [← hQm]
        exact k_zret hC hr hlk hK hP hD hS (v_rd_2, h18, h19, v_tp_2, v_tp_3, v_tp_4, w_tp_5, v_tp_6) [1, 2, 0] rfl (by decide +kernel) rfl (Or.inl ⟨rfl, (show 0 ≤ v_tp_2.toInt ∧ v_tp_2.toInt ≤ 1300 from by omega)⟩) (Nat.le_of_ble_eq_true rfl) (Nat.le_of_ble_eq_true rfl) dX2_takeNumber_44
  · have dc1 : v_tp_4.toInt ≠ 2 := fa_ne c1; have lbc1_0 := i_lo v_tp_4; have ubc1_0 := i_hi v_tp_4
    refine lv_aload_n hx hb dX2_takeNumber_11 rfl (lv_at hl 0 rfl) ?_
    refine lv_iconst (v := 2) hx hb dX2_takeNumber_12 (by decide) ?_
    have l_l22 : (2 : Int32).toInt = 2 := rfl
    refine k_ci (wr := [(a3, .inl (cB, 1300, .inl g_tp_bytes))]) (k_rV hC hN hZ hS hA hK hP hD (c47_X2_refuse l G cI cJ cB cZ a0 a1 a2 a3 2 v_rd_2 v_rd_3 v_rd_4 v_rd_5 v_rd_6 v_rd_7 v_tp_1 v_tp_2 v_tp_3 v_tp_4 w_tp_5 v_tp_6 hv_0 hv_1 hv_2 hv_3 hv_4 hv_5 hv_6 hv_7) [0, 1] rfl (by decide +kernel) mi_X2_refuse in_X2_refuse se_X2_refuse wm_X2_100 2 0 rfl rfl rfl hl.1 rfl rfl (Nat.le_of_ble_eq_true rfl) ⟨(Nat.le_of_ble_eq_true rfl), (Nat.le_of_ble_eq_true rfl)⟩ dX2_takeNumber_13 ⟨(Nat.le_of_ble_eq_true rfl), (Nat.le_of_ble_eq_true rfl)⟩) hP hD hS hA [0, 1] [2] rfl rfl (by decide +kernel) (by decide +kernel) (fun r21 u21 H locs hp hP hD hS => ?_)
    obtain ⟨h23, h24⟩ := u21
    have hp : (r21 = 0 ∧ True) := hp
    obtain rfl : r21 = 0 := hp.1
    have hP : va_P G cl [(a3, .inl (cB, 1300, .inl g_tp_bytes)), (a0, .inr (2, [.ref a1, .ref a2, .int v_rd_2, .int v_rd_3, .int v_rd_4, .int v_rd_5, .int h23, .int h24])), (a1, .inr (5, [.ref a3, .int v_tp_1, .int v_tp_2, .int v_tp_3, .int v_tp_4, .long w_tp_5, .int v_tp_6]))] H := hP
    have hD : va_D A [(a3, .inl (cB, 1300, .inl g_tp_bytes)), (a0, .inr (2, [.ref a1, .ref a2, .int v_rd_2, .int v_rd_3, .int v_rd_4, .int v_rd_5, .int h23, .int h24])), (a1, .inr (5, [.ref a3, .int v_tp_1, .int v_tp_2, .int v_tp_3, .int v_tp_4, .long w_tp_5, .int v_tp_6]))] := hD
    have hq21 := hp
    have l_l25 : (0 : Int32).toInt = 0 := rfl
    rw [← hQm]
    exact k_zret hC hr hlk hK hP hD hS (v_rd_2, h23, h24, v_tp_2, v_tp_3, v_tp_4, w_tp_5, v_tp_6) [1, 2, 0] rfl (by decide +kernel) rfl (Or.inl ⟨rfl, (show 0 ≤ v_tp_2.toInt ∧ v_tp_2.toInt ≤ 1300 from by omega)⟩) (Nat.le_of_ble_eq_true rfl) (Nat.le_of_ble_eq_true rfl) dX2_takeNumber_16
set_option maxHeartbeats 4000000 in
set_option maxRecDepth 100000 in
theorem c67_X2_takeNumber (l : Launch) (G : va_G) (cI cJ cB cZ : ClassId) (a0 a1 a2 a3 : Nat) (b1 : Int32) (v_rd_2 : Int32) (v_rd_3 : Int32) (v_rd_4 : Int32) (v_rd_5 : Int32) (v_rd_6 : Int32) (v_rd_7 : Int32) (v_tp_1 : Int32) (v_tp_2 : Int32) (v_tp_3 : Int32) (v_tp_4 : Int32) (w_tp_5 : Int64) (v_tp_6 : Int32) (g_tp_bytes : Nat → Int32) (hv_0 : 0 ≤ v_rd_3.toInt) (hv_1 : v_rd_3.toInt ≤ 1) (hv_2 : 0 ≤ v_rd_4.toInt) (hv_3 : v_rd_4.toInt ≤ 1) (hv_4 : 0 ≤ v_tp_1.toInt) (hv_5 : v_tp_1.toInt ≤ 1300) (hv_6 : 0 ≤ v_tp_2.toInt) (hv_7 : v_tp_2.toInt ≤ 1300) (hT_g_tp_bytes : TA (-128) 127 g_tp_bytes) : Con l G (TY cI cJ cB cZ) yX2_takeNumber cX2_takeNumber 3 (some .boolean) ({ frames := 3, cells := 0, slots := 0, locals := 61 } : Room) [.ref a0, .int b1, .int 400] [(a0, .inr (2, [.ref a1, .ref a2, .int v_rd_2, .int v_rd_3, .int v_rd_4, .int v_rd_5, .int v_rd_6, .int v_rd_7])), (a1, .inr (5, [.ref a3, .int v_tp_1, .int v_tp_2, .int v_tp_3, .int v_tp_4, .long w_tp_5, .int v_tp_6])), (a3, .inl (cB, 1300, .inl g_tp_bytes))] (QI G (TY cI cJ cB cZ) (fun (r : Int32) (u : Int32 × Int32 × Int32 × Int32 × Int32 × Int32 × Int64 × Int32) => (r = 0 ∧ (0 ≤ u.2.2.2.1.toInt ∧ u.2.2.2.1.toInt ≤ 1300)) ∨ (r = 1 ∧ (u.1.toInt ≤ 400 ∧ 0 ≤ u.2.2.2.1.toInt ∧ u.2.2.2.1.toInt ≤ 1300 ∧ 0 ≤ u.2.2.2.2.1.toInt ∧ u.2.2.2.2.1.toInt ≤ 1300 ∧ 0 ≤ u.2.2.2.2.2.1.toInt ∧ u.2.2.2.2.2.1.toInt ≤ 4))) (fun u : Int32 × Int32 × Int32 × Int32 × Int32 × Int32 × Int64 × Int32 => [(a0, .inr (2, [.ref a1, .ref a2, .int u.1, .int v_rd_3, .int v_rd_4, .int v_rd_5, .int u.2.1, .int u.2.2.1])), (a1, .inr (5, [.ref a3, .int v_tp_1, .int u.2.2.2.1, .int u.2.2.2.2.1, .int u.2.2.2.2.2.1, .long u.2.2.2.2.2.2.1, .int u.2.2.2.2.2.2.2])), (a3, .inl (cB, 1300, .inl g_tp_bytes))])) := by
  refine k_met (by decide) (Nat.le_of_ble_eq_true rfl) ?_
  intro p e s m below meth c A ls hC hr hlk hnm hN hZ hK hA hP hD hS hl
  have hl : lv_has ls 3 [(0, .ref a0), (1, .int b1), (2, .int 400)] := hl
  generalize hQm : MQ below _ _ s _ _ A = Qm
  generalize (List.toArray _ : Array Value) = args at hC hQm ⊢
  obtain ⟨hx, hb, hml, hown, hts⟩ := id hC
  obtain ⟨H, hH⟩ : ∃ q, q = s.heap := ⟨_, rfl⟩
  obtain ⟨locs, hlo⟩ : ∃ q : List Loc, q = [] := ⟨_, rfl⟩
  have hP : va_P G cl [(a0, .inr (2, [.ref a1, .ref a2, .int v_rd_2, .int v_rd_3, .int v_rd_4, .int v_rd_5, .int v_rd_6, .int v_rd_7])), (a1, .inr (5, [.ref a3, .int v_tp_1, .int v_tp_2, .int v_tp_3, .int v_tp_4, .long w_tp_5, .int v_tp_6])), (a3, .inl (cB, 1300, .inl g_tp_bytes))] H := by rw [hH]; exact hP
  have hS : va_S A s.heap H locs := by rw [hH, hlo]; exact hS
  rw [← hlo]
  rw [← hH]
  refine lv_aload_n hx hb dX2_takeNumber_0 rfl (lv_at hl 0 rfl) ?_
  refine k_get hC hK hP iX2 0 0 wf_X2_12 rfl (by decide) rfl rfl dX2_takeNumber_1 ?_
  refine k_getN hC hN hK hP iX5 1 4 wf_X2_51 rfl (by decide) rfl rfl dX2_takeNumber_4 ?_
  refine lv_iconst (v := 2) hx hb dX2_takeNumber_7 (by decide) ?_
  refine lv_icmp_eq (tgt := 17) hx hb dX2_takeNumber_8 (by decide) (fun c1 => ?_) (fun c1 => ?_)
  · have dc1 : v_tp_4.toInt = 2 := (fa_eq _ _).mp c1; have lbc1_0 := i_lo v_tp_4; have ubc1_0 := i_hi v_tp_4
    refine lv_aload_n hx hb dX2_takeNumber_17 rfl (lv_at hl 0 rfl) ?_
    refine k_get hC hK hP iX2 0 0 wf_X2_12 rfl (by decide) rfl rfl dX2_takeNumber_18 ?_
    refine k_getN hC hN hK hP iX5 1 6 wf_X2_146 rfl (by decide) rfl rfl dX2_takeNumber_21 ?_
    refine lv_iload_n hx hb dX2_takeNumber_24 rfl (lv_at hl 1 rfl) ?_
    refine lv_icmp_lt (tgt := 39) hx hb dX2_takeNumber_25 (by decide) (fun c2 => ?_) (fun c2 => ?_)
    · have dc2 : v_tp_6.toInt < b1.toInt := (fa_lt _ _).mp c2; have lbc2_0 := i_lo v_tp_6; have ubc2_0 := i_hi v_tp_6; have lbc2_1 := i_lo b1; have ubc2_1 := i_hi b1
      refine lv_aload_n hx hb dX2_takeNumber_39 rfl (lv_at hl 0 rfl) ?_
      refine lv_iconst (v := 4) hx hb dX2_takeNumber_40 (by decide) ?_
      have l_l4 : (4 : Int32).toInt = 4 := rfl
      refine k_ci (wr := [(a3, .inl (cB, 1300, .inl g_tp_bytes))]) (k_rV hC hN hZ hS hA hK hP hD (c47_X2_refuse l G cI cJ cB cZ a0 a1 a2 a3 4 v_rd_2 v_rd_3 v_rd_4 v_rd_5 v_rd_6 v_rd_7 v_tp_1 v_tp_2 v_tp_3 v_tp_4 w_tp_5 v_tp_6 hv_0 hv_1 hv_2 hv_3 hv_4 hv_5 hv_6 hv_7) [0, 1] rfl (by decide +kernel) mi_X2_refuse in_X2_refuse se_X2_refuse wm_X2_100 2 0 rfl rfl rfl hl.1 rfl rfl (Nat.le_of_ble_eq_true rfl) ⟨(Nat.le_of_ble_eq_true rfl), (Nat.le_of_ble_eq_true rfl)⟩ dX2_takeNumber_41 ⟨(Nat.le_of_ble_eq_true rfl), (Nat.le_of_ble_eq_true rfl)⟩) hP hD hS hA [0, 1] [2] rfl rfl (by decide +kernel) (by decide +kernel) (fun r3 u3 H locs hp hP hD hS => ?_)
      obtain ⟨h5, h6⟩ := u3
      have hp : (r3 = 0 ∧ True) := hp
      obtain rfl : r3 = 0 := hp.1
      have hP : va_P G cl [(a3, .inl (cB, 1300, .inl g_tp_bytes)), (a0, .inr (2, [.ref a1, .ref a2, .int v_rd_2, .int v_rd_3, .int v_rd_4, .int v_rd_5, .int h5, .int h6])), (a1, .inr (5, [.ref a3, .int v_tp_1, .int v_tp_2, .int v_tp_3, .int v_tp_4, .long w_tp_5, .int v_tp_6]))] H := hP
      have hD : va_D A [(a3, .inl (cB, 1300, .inl g_tp_bytes)), (a0, .inr (2, [.ref a1, .ref a2, .int v_rd_2, .int v_rd_3, .int v_rd_4, .int v_rd_5, .int h5, .int h6])), (a1, .inr (5, [.ref a3, .int v_tp_1, .int v_tp_2, .int v_tp_3, .int v_tp_4, .long w_tp_5, .int v_tp_6]))] := hD
      have hq3 := hp
      have l_l7 : (0 : Int32).toInt = 0 := rfl
      rw [← hQm]
      exact k_zret hC hr hlk hK hP hD hS (v_rd_2, h5, h6, v_tp_2, v_tp_3, v_tp_4, w_tp_5, v_tp_6) [1, 2, 0] rfl (by decide +kernel) rfl (Or.inl ⟨rfl, (show 0 ≤ v_tp_2.toInt ∧ v_tp_2.toInt ≤ 1300 from by omega)⟩) (Nat.le_of_ble_eq_true rfl) (Nat.le_of_ble_eq_true rfl) dX2_takeNumber_44
    · have dc2 : b1.toInt ≤ v_tp_6.toInt := fa_nlt c2; have lbc2_0 := i_lo v_tp_6; have ubc2_0 := i_hi v_tp_6; have lbc2_1 := i_lo b1; have ubc2_1 := i_hi b1
      refine lv_aload_n hx hb dX2_takeNumber_28 rfl (lv_at hl 0 rfl) ?_
      refine k_get hC hK hP iX2 0 0 wf_X2_12 rfl (by decide) rfl rfl dX2_takeNumber_29 ?_
      refine k_getN hC hN hK hP iX5 1 6 wf_X2_146 rfl (by decide) rfl rfl dX2_takeNumber_32 ?_
      refine lv_iload_n hx hb dX2_takeNumber_35 rfl (lv_at hl 2 rfl) ?_
      refine lv_icmp_le (tgt := 45) hx hb dX2_takeNumber_36 (by decide) (fun c8 => ?_) (fun c8 => ?_)
      · have dc8 : v_tp_6.toInt ≤ 400 := (fa_le _ _).mp c8; have lbc8_0 := i_lo v_tp_6; have ubc8_0 := i_hi v_tp_6
        refine lv_aload_n hx hb dX2_takeNumber_45 rfl (lv_at hl 0 rfl) ?_
        refine lv_aload_n hx hb dX2_takeNumber_46 rfl (lv_at hl 0 rfl) ?_
        refine k_get hC hK hP iX2 0 0 wf_X2_12 rfl (by decide) rfl rfl dX2_takeNumber_47 ?_
        refine k_getN hC hN hK hP iX5 1 6 wf_X2_146 rfl (by decide) rfl rfl dX2_takeNumber_50 ?_
        refine k_put hC hK hP hD hS iX2 tyX2_ok nmX2 0 2 wf_X2_25 rfl (by decide) rfl rfl rfl rfl (Nat.le_of_ble_eq_true rfl) dX2_takeNumber_53 (fun H locs hP hD hS => ?_)
        have hP : va_P G cl [(a0, .inr (2, [.ref a1, .ref a2, .int v_tp_6, .int v_rd_3, .int v_rd_4, .int v_rd_5, .int v_rd_6, .int v_rd_7])), (a1, .inr (5, [.ref a3, .int v_tp_1, .int v_tp_2, .int v_tp_3, .int v_tp_4, .long w_tp_5, .int v_tp_6])), (a3, .inl (cB, 1300, .inl g_tp_bytes))] H := hP
        have hD : va_D A [(a0, .inr (2, [.ref a1, .ref a2, .int v_tp_6, .int v_rd_3, .int v_rd_4, .int v_rd_5, .int v_rd_6, .int v_rd_7])), (a1, .inr (5, [.ref a3, .int v_tp_1, .int v_tp_2, .int v_tp_3, .int v_tp_4, .long w_tp_5, .int v_tp_6])), (a3, .inl (cB, 1300, .inl g_tp_bytes))] := hD
        refine lv_aload_n hx hb dX2_takeNumber_56 rfl (lv_at hl 0 rfl) ?_
        refine k_get hC hK hP iX2 0 0 wf_X2_12 rfl (by decide) rfl rfl dX2_takeNumber_57 ?_
        refine k_cv (wr := [(a0, .inr (2, [.ref a1, .ref a2, .int v_tp_6, .int v_rd_3, .int v_rd_4, .int v_rd_5, .int v_rd_6, .int v_rd_7]))]) (k_rV hC hN hZ hS hA hK hP hD (c20_X5_advance l G cI cJ cB cZ a1 a3 v_tp_1 v_tp_2 v_tp_3 v_tp_4 w_tp_5 v_tp_6 g_tp_bytes hv_4 hv_5 hv_6 hv_7 hT_g_tp_bytes) [1, 2] rfl (by decide +kernel) mi_X5_advance in_X5_advance se_X5_advance wm_X2_104 5 1 rfl rfl rfl hl.1 rfl rfl (Nat.le_of_ble_eq_true rfl) ⟨(Nat.le_of_ble_eq_true rfl), (Nat.le_of_ble_eq_true rfl)⟩ dX2_takeNumber_60 ⟨(Nat.le_of_ble_eq_true rfl), (Nat.le_of_ble_eq_true rfl)⟩) hP hD hS hA [1, 2] [0] rfl rfl (by decide +kernel) (by decide +kernel) (fun u9 H locs hp hP hD hS => ?_)
        obtain ⟨h10, h11, h12, y13, h14⟩ := u9
        have hp : (0 ≤ h10.toInt ∧ h10.toInt ≤ 1300 ∧ 0 ≤ h11.toInt ∧ h11.toInt ≤ 1300 ∧ 0 ≤ h12.toInt ∧ h12.toInt ≤ 4) := hp
        have hP : va_P G cl [(a0, .inr (2, [.ref a1, .ref a2, .int v_tp_6, .int v_rd_3, .int v_rd_4, .int v_rd_5, .int v_rd_6, .int v_rd_7])), (a1, .inr (5, [.ref a3, .int v_tp_1, .int h10, .int h11, .int h12, .long y13, .int h14])), (a3, .inl (cB, 1300, .inl g_tp_bytes))] H := hP
        have hD : va_D A [(a0, .inr (2, [.ref a1, .ref a2, .int v_tp_6, .int v_rd_3, .int v_rd_4, .int v_rd_5, .int v_rd_6, .int v_rd_7])), (a1, .inr (5, [.ref a3, .int v_tp_1, .int h10, .int h11, .int h12, .long y13, .int h14])), (a3, .inl (cB, 1300, .inl g_tp_bytes))] := hD
        have hq9 := hp
        refine lv_iconst (v := 1) hx hb dX2_takeNumber_63 (by decide) ?_
        have l_l15 : (1 : Int32).toInt = 1 := rfl
        rw [← hQm]
        exact k_zret hC hr hlk hK hP hD hS (v_tp_6, v_rd_6, v_rd_7, h10, h11, h12, y13, h14) [0, 1, 2] rfl (by decide +kernel) rfl (Or.inr ⟨rfl, (show v_tp_6.toInt ≤ 400 ∧ 0 ≤ h10.toInt ∧ h10.toInt ≤ 1300 ∧ 0 ≤ h11.toInt ∧ h11.toInt ≤ 1300 ∧ 0 ≤ h12.toInt ∧ h12.toInt ≤ 4 from by omega)⟩) (Nat.le_of_ble_eq_true rfl) (Nat.le_of_ble_eq_true rfl) dX2_takeNumber_64
      · have dc8 : 400 < v_tp_6.toInt := fa_nle c8; have lbc8_0 := i_lo v_tp_6; have ubc8_0 := i_hi v_tp_6
        refine lv_aload_n hx hb dX2_takeNumber_39 rfl (lv_at hl 0 rfl) ?_
        refine lv_iconst (v := 4) hx hb dX2_takeNumber_40 (by decide) ?_
        have l_l17 : (4 : Int32).toInt = 4 := rfl
        refine k_ci (wr := [(a3, .inl (cB, 1300, .inl g_tp_bytes))]) (k_rV hC hN hZ hS hA hK hP hD (c47_X2_refuse l G cI cJ cB cZ a0 a1 a2 a3 4 v_rd_2 v_rd_3 v_rd_4 v_rd_5 v_rd_6 v_rd_7 v_tp_1 v_tp_2 v_tp_3 v_tp_4 w_tp_5 v_tp_6 hv_0 hv_1 hv_2 hv_3 hv_4 hv_5 hv_6 hv_7) [0, 1] rfl (by decide +kernel) mi_X2_refuse in_X2_refuse se_X2_refuse wm_X2_100 2 0 rfl rfl rfl hl.1 rfl rfl (Nat.le_of_ble_eq_true rfl) ⟨(Nat.le_of_ble_eq_true rfl), (Nat.le_of_ble_eq_true rfl)⟩ dX2_takeNumber_41 ⟨(Nat.le_of_ble_eq_true rfl), (Nat.le_of_ble_eq_true rfl)⟩) hP hD hS hA [0, 1] [2] rfl rfl (by decide +kernel) (by decide +kernel) (fun r16 u16 H locs hp hP hD hS => ?_)
        obtain ⟨h18, h19⟩ := u16
        have hp : (r16 = 0 ∧ True) := hp
        obtain rfl : r16 = 0 := hp.1
        have hP : va_P G cl [(a3, .inl (cB, 1300, .inl g_tp_bytes)), (a0, .inr (2, [.ref a1, .ref a2, .int v_rd_2, .int v_rd_3, .int v_rd_4, .int v_rd_5, .int h18, .int h19])), (a1, .inr (5, [.ref a3, .int v_tp_1, .int v_tp_2, .int v_tp_3, .int v_tp_4, .long w_tp_5, .int v_tp_6]))] H := hP
        have hD : va_D A [(a3, .inl (cB, 1300, .inl g_tp_bytes)), (a0, .inr (2, [.ref a1, .ref a2, .int v_rd_2, .int v_rd_3, .int v_rd_4, .int v_rd_5, .int h18, .int h19])), (a1, .inr (5, [.ref a3, .int v_tp_1, .int v_tp_2, .int v_tp_3, .int v_tp_4, .long w_tp_5, .int v_tp_6]))] := hD
        have hq16 := hp
        have l_l20 : (0 : Int32).toInt = 0 := rfl
        rw [← hQm]
        exact k_zret hC hr hlk hK hP hD hS (v_rd_2, h18, h19, v_tp_2, v_tp_3, v_tp_4, w_tp_5, v_tp_6) [1, 2, 0] rfl (by decide +kernel) rfl (Or.inl ⟨rfl, (show 0 ≤ v_tp_2.toInt ∧ v_tp_2.toInt ≤ 1300 from by omega)⟩) (Nat.le_of_ble_eq_true rfl) (Nat.le_of_ble_eq_true rfl) dX2_takeNumber_44
  · have dc1 : v_tp_4.toInt ≠ 2 := fa_ne c1; have lbc1_0 := i_lo v_tp_4; have ubc1_0 := i_hi v_tp_4
    refine lv_aload_n hx hb dX2_takeNumber_11 rfl (lv_at hl 0 rfl) ?_
    refine lv_iconst (v := 2) hx hb dX2_takeNumber_12 (by decide) ?_
    have l_l22 : (2 : Int32).toInt = 2 := rfl
    refine k_ci (wr := [(a3, .inl (cB, 1300, .inl g_tp_bytes))]) (k_rV hC hN hZ hS hA hK hP hD (c47_X2_refuse l G cI cJ cB cZ a0 a1 a2 a3 2 v_rd_2 v_rd_3 v_rd_4 v_rd_5 v_rd_6 v_rd_7 v_tp_1 v_tp_2 v_tp_3 v_tp_4 w_tp_5 v_tp_6 hv_0 hv_1 hv_2 hv_3 hv_4 hv_5 hv_6 hv_7) [0, 1] rfl (by decide +kernel) mi_X2_refuse in_X2_refuse se_X2_refuse wm_X2_100 2 0 rfl rfl rfl hl.1 rfl rfl (Nat.le_of_ble_eq_true rfl) ⟨(Nat.le_of_ble_eq_true rfl), (Nat.le_of_ble_eq_true rfl)⟩ dX2_takeNumber_13 ⟨(Nat.le_of_ble_eq_true rfl), (Nat.le_of_ble_eq_true rfl)⟩) hP hD hS hA [0, 1] [2] rfl rfl (by decide +kernel) (by decide +kernel) (fun r21 u21 H locs hp hP hD hS => ?_)
    obtain ⟨h23, h24⟩ := u21
    have hp : (r21 = 0 ∧ True) := hp
    obtain rfl : r21 = 0 := hp.1
    have hP : va_P G cl [(a3, .inl (cB, 1300, .inl g_tp_bytes)), (a0, .inr (2, [.ref a1, .ref a2, .int v_rd_2, .int v_rd_3, .int v_rd_4, .int v_rd_5, .int h23, .int h24])), (a1, .inr (5, [.ref a3, .int v_tp_1, .int v_tp_2, .int v_tp_3, .int v_tp_4, .long w_tp_5, .int v_tp_6]))] H := hP
    have hD : va_D A [(a3, .inl (cB, 1300, .inl g_tp_bytes)), (a0, .inr (2, [.ref a1, .ref a2, .int v_rd_2, .int v_rd_3, .int v_rd_4, .int v_rd_5, .int h23, .int h24])), (a1, .inr (5, [.ref a3, .int v_tp_1, .int v_tp_2, .int v_tp_3, .int v_tp_4, .long w_tp_5, .int v_tp_6]))] := hD
    have hq21 := hp
    have l_l25 : (0 : Int32).toInt = 0 := rfl
    rw [← hQm]
    exact k_zret hC hr hlk hK hP hD hS (v_rd_2, h23, h24, v_tp_2, v_tp_3, v_tp_4, w_tp_5, v_tp_6) [1, 2, 0] rfl (by decide +kernel) rfl (Or.inl ⟨rfl, (show 0 ≤ v_tp_2.toInt ∧ v_tp_2.toInt ≤ 1300 from by omega)⟩) (Nat.le_of_ble_eq_true rfl) (Nat.le_of_ble_eq_true rfl) dX2_takeNumber_16
theorem dX2_readMaster_0 : decode cX2_readMaster 0 = .ok (.aload_n 0, 1) := by decide +kernel
theorem dX2_readMaster_1 : decode cX2_readMaster 1 = .ok (.getfield 12, 3) := by decide +kernel
theorem dX2_readMaster_4 : decode cX2_readMaster 4 = .ok (.invokevirtual 104, 3) := by decide +kernel
theorem dX2_readMaster_7 : decode cX2_readMaster 7 = .ok (.aload_n 0, 1) := by decide +kernel
theorem dX2_readMaster_8 : decode cX2_readMaster 8 = .ok (.invokevirtual 193, 3) := by decide +kernel
set_option maxRecDepth 100000 in
theorem wm_X2_193 : Cond.methodLink RX2 193 yX2_stoneHere ∈ gw := gm (List.mem_of_getElem? (i := 686) (by decide +kernel)) rfl
set_option maxRecDepth 100000 in
theorem mi_X2_stoneHere : MI yX2_stoneHere cX2_stoneHere 2 (some .int) 0 := ⟨gm (List.mem_of_getElem? (i := 689) rfl) rfl, gm (List.mem_of_getElem? (i := 118) (by decide +kernel)) rfl, by decide, by decide, by decide +kernel⟩
set_option maxRecDepth 100000 in
theorem in_X2_stoneHere : Cond.instanceMethod yX2_stoneHere ∈ gw := gm (List.mem_of_getElem? (i := 688) (by decide +kernel)) rfl
set_option maxRecDepth 100000 in
theorem se_X2_stoneHere : Cond.selects yX2_stoneHere.cls yX2_stoneHere yX2_stoneHere ∈ gw := gm (List.mem_of_getElem? (i := 14) (by decide +kernel)) rfl
theorem dX2_readMaster_11 : decode cX2_readMaster 11 = .ok (.istore_n 1, 1) := by decide +kernel
theorem dX2_readMaster_12 : decode cX2_readMaster 12 = .ok (.iload_n 1, 1) := by decide +kernel
theorem dX2_readMaster_13 : decode cX2_readMaster 13 = .ok (.ifCond .ge 5, 3) := by decide +kernel
theorem dX2_readMaster_18 : decode cX2_readMaster 18 = .ok (.aload_n 0, 1) := by decide +kernel
theorem dX2_readMaster_19 : decode cX2_readMaster 19 = .ok (.getfield 21, 3) := by decide +kernel
theorem dX2_readMaster_22 : decode cX2_readMaster 22 = .ok (.iload_n 1, 1) := by decide +kernel
theorem dX2_readMaster_23 : decode cX2_readMaster 23 = .ok (.invokevirtual 197, 3) := by decide +kernel
set_option maxRecDepth 100000 in
theorem wm_X2_197 : Cond.methodLink RX2 197 yX7_hasMaster ∈ gw := gm (List.mem_of_getElem? (i := 690) (by decide +kernel)) rfl
theorem dX2_readMaster_26 : decode cX2_readMaster 26 = .ok (.ifCond .eq 9, 3) := by decide +kernel
theorem dX2_readMaster_35 : decode cX2_readMaster 35 = .ok (.aload_n 0, 1) := by decide +kernel
theorem dX2_readMaster_36 : decode cX2_readMaster 36 = .ok (.getfield 12, 3) := by decide +kernel
theorem dX2_readMaster_39 : decode cX2_readMaster 39 = .ok (.invokevirtual 104, 3) := by decide +kernel
theorem dX2_readMaster_42 : decode cX2_readMaster 42 = .ok (.aload_n 0, 1) := by decide +kernel
theorem dX2_readMaster_43 : decode cX2_readMaster 43 = .ok (.ldc2_w 137, 3) := by decide +kernel
theorem dX2_readMaster_46 : decode cX2_readMaster 46 = .ok (.invokevirtual 113, 3) := by decide +kernel
theorem dX2_readMaster_49 : decode cX2_readMaster 49 = .ok (.ifCond .eq 14, 3) := by decide +kernel
theorem dX2_readMaster_63 : decode cX2_readMaster 63 = .ok (.iconst 0, 1) := by decide +kernel
theorem dX2_readMaster_64 : decode cX2_readMaster 64 = .ok (.ireturn, 1) := by decide +kernel
theorem dX2_readMaster_52 : decode cX2_readMaster 52 = .ok (.aload_n 0, 1) := by decide +kernel
theorem dX2_readMaster_53 : decode cX2_readMaster 53 = .ok (.iconst 0, 1) := by decide +kernel
theorem dX2_readMaster_54 : decode cX2_readMaster 54 = .ok (.sipush 400, 3) := by decide +kernel
theorem dX2_readMaster_57 : decode cX2_readMaster 57 = .ok (.invokevirtual 107, 3) := by decide +kernel
theorem dX2_readMaster_60 : decode cX2_readMaster 60 = .ok (.ifCond .ne 5, 3) := by decide +kernel
theorem dX2_readMaster_65 : decode cX2_readMaster 65 = .ok (.aload_n 0, 1) := by decide +kernel
theorem dX2_readMaster_66 : decode cX2_readMaster 66 = .ok (.getfield 21, 3) := by decide +kernel
theorem dX2_readMaster_69 : decode cX2_readMaster 69 = .ok (.getfield 187, 3) := by decide +kernel
theorem dX2_readMaster_72 : decode cX2_readMaster 72 = .ok (.iload_n 1, 1) := by decide +kernel
theorem dX2_readMaster_73 : decode cX2_readMaster 73 = .ok (.aload_n 0, 1) := by decide +kernel
theorem dX2_readMaster_74 : decode cX2_readMaster 74 = .ok (.getfield 25, 3) := by decide +kernel
theorem dX2_readMaster_77 : decode cX2_readMaster 77 = .ok (.iastore, 1) := by decide +kernel
theorem dX2_readMaster_78 : decode cX2_readMaster 78 = .ok (.aload_n 0, 1) := by decide +kernel
theorem dX2_readMaster_79 : decode cX2_readMaster 79 = .ok (.ldc2_w 111, 3) := by decide +kernel
theorem dX2_readMaster_82 : decode cX2_readMaster 82 = .ok (.invokevirtual 113, 3) := by decide +kernel
theorem dX2_readMaster_85 : decode cX2_readMaster 85 = .ok (.ifCond .eq 22, 3) := by decide +kernel
theorem dX2_readMaster_107 : decode cX2_readMaster 107 = .ok (.iconst 0, 1) := by decide +kernel
theorem dX2_readMaster_108 : decode cX2_readMaster 108 = .ok (.ireturn, 1) := by decide +kernel
theorem dX2_readMaster_88 : decode cX2_readMaster 88 = .ok (.aload_n 0, 1) := by decide +kernel
theorem dX2_readMaster_89 : decode cX2_readMaster 89 = .ok (.aload_n 0, 1) := by decide +kernel
theorem dX2_readMaster_90 : decode cX2_readMaster 90 = .ok (.getfield 21, 3) := by decide +kernel
theorem dX2_readMaster_93 : decode cX2_readMaster 93 = .ok (.getfield 187, 3) := by decide +kernel
theorem dX2_readMaster_96 : decode cX2_readMaster 96 = .ok (.iload_n 1, 1) := by decide +kernel
theorem dX2_readMaster_97 : decode cX2_readMaster 97 = .ok (.iaload, 1) := by decide +kernel
theorem dX2_readMaster_98 : decode cX2_readMaster 98 = .ok (.sipush 400, 3) := by decide +kernel
theorem dX2_readMaster_101 : decode cX2_readMaster 101 = .ok (.invokevirtual 107, 3) := by decide +kernel
theorem dX2_readMaster_104 : decode cX2_readMaster 104 = .ok (.ifCond .ne 5, 3) := by decide +kernel
theorem dX2_readMaster_109 : decode cX2_readMaster 109 = .ok (.aload_n 0, 1) := by decide +kernel
theorem dX2_readMaster_110 : decode cX2_readMaster 110 = .ok (.getfield 21, 3) := by decide +kernel
theorem dX2_readMaster_113 : decode cX2_readMaster 113 = .ok (.getfield 190, 3) := by decide +kernel
theorem dX2_readMaster_116 : decode cX2_readMaster 116 = .ok (.iload_n 1, 1) := by decide +kernel
theorem dX2_readMaster_117 : decode cX2_readMaster 117 = .ok (.aload_n 0, 1) := by decide +kernel
theorem dX2_readMaster_118 : decode cX2_readMaster 118 = .ok (.getfield 25, 3) := by decide +kernel
theorem dX2_readMaster_121 : decode cX2_readMaster 121 = .ok (.iastore, 1) := by decide +kernel
theorem dX2_readMaster_122 : decode cX2_readMaster 122 = .ok (.aload_n 0, 1) := by decide +kernel
theorem dX2_readMaster_123 : decode cX2_readMaster 123 = .ok (.invokevirtual 128, 3) := by decide +kernel
theorem dX2_readMaster_126 : decode cX2_readMaster 126 = .ok (.ireturn, 1) := by decide +kernel
theorem dX2_readMaster_29 : decode cX2_readMaster 29 = .ok (.aload_n 0, 1) := by decide +kernel
theorem dX2_readMaster_30 : decode cX2_readMaster 30 = .ok (.iconst 3, 1) := by decide +kernel
theorem dX2_readMaster_31 : decode cX2_readMaster 31 = .ok (.invokevirtual 100, 3) := by decide +kernel
theorem dX2_readMaster_34 : decode cX2_readMaster 34 = .ok (.ireturn, 1) := by decide +kernel
theorem dX2_readMaster_16 : decode cX2_readMaster 16 = .ok (.iconst 0, 1) := by decide +kernel
theorem dX2_readMaster_17 : decode cX2_readMaster 17 = .ok (.ireturn, 1) := by decide +kernel
set_option maxHeartbeats 4000000 in
set_option maxRecDepth 100000 in
theorem c68_X2_readMaster (l : Launch) (G : va_G) (cI cJ cB cZ : ClassId) (a0 a1 a2 a3 a4 a5 a6 a7 a8 a9 a10 a11 a12 a13 a14 : Nat) (v_rd_2 : Int32) (v_rd_3 : Int32) (v_rd_4 : Int32) (v_rd_5 : Int32) (v_rd_6 : Int32) (v_rd_7 : Int32) (v_tp_1 : Int32) (v_tp_2 : Int32) (v_tp_3 : Int32) (v_tp_4 : Int32) (w_tp_5 : Int64) (v_tp_6 : Int32) (v_M_0 : Int32) (v_M_1 : Int32) (v_M_2 : Int32) (v_M_5 : Int32) (g_tp_bytes : Nat → Int32) (g_M_name : Nat → Int64) (g_M_masterHigh : Nat → Int32) (g_M_masterLow : Nat → Int32) (hv_0 : 0 ≤ v_rd_3.toInt) (hv_1 : v_rd_3.toInt ≤ 1) (hv_2 : 0 ≤ v_rd_4.toInt) (hv_3 : v_rd_4.toInt ≤ 1) (hv_4 : 0 ≤ v_tp_1.toInt) (hv_5 : v_tp_1.toInt ≤ 1300) (hv_6 : 0 ≤ v_tp_2.toInt) (hv_7 : v_tp_2.toInt ≤ 1300) (hv_8 : 0 ≤ v_M_0.toInt) (hv_9 : v_M_0.toInt ≤ 110) (hv_10 : 0 ≤ v_M_1.toInt) (hv_11 : v_M_1.toInt ≤ 110) (hv_12 : 0 ≤ v_M_5.toInt) (hv_13 : v_M_5.toInt ≤ 6) (hT_g_tp_bytes : TA (-128) 127 g_tp_bytes) : Con l G (TY cI cJ cB cZ) yX2_readMaster cX2_readMaster 2 (some .boolean) ({ frames := 4, cells := 0, slots := 0, locals := 83 } : Room) [.ref a0] [(a0, .inr (2, [.ref a1, .ref a2, .int v_rd_2, .int v_rd_3, .int v_rd_4, .int v_rd_5, .int v_rd_6, .int v_rd_7])), (a1, .inr (5, [.ref a3, .int v_tp_1, .int v_tp_2, .int v_tp_3, .int v_tp_4, .long w_tp_5, .int v_tp_6])), (a3, .inl (cB, 1300, .inl g_tp_bytes)), (a2, .inr (7, [.int v_M_0, .int v_M_1, .int v_M_2, .ref a4, .ref a5, .int v_M_5, .ref a6, .ref a7, .ref a8, .ref a9, .ref a10, .ref a11, .ref a12, .ref a13, .ref a14])), (a6, .inl (cJ, 6, .inr (.inl g_M_name))), (a12, .inl (cI, 6, .inl g_M_masterHigh)), (a11, .inl (cI, 6, .inl g_M_masterLow))] (QI G (TY cI cJ cB cZ) (fun (r : Int32) (u : Int32 × Int32 × Int32 × Int32 × Int32 × Int32 × Int64 × Int32 × (Nat → Int32) × (Nat → Int32)) => (0 ≤ r.toInt ∧ r.toInt ≤ 1 ∧ 0 ≤ u.2.2.2.1.toInt ∧ u.2.2.2.1.toInt ≤ 1300)) (fun u : Int32 × Int32 × Int32 × Int32 × Int32 × Int32 × Int64 × Int32 × (Nat → Int32) × (Nat → Int32) => [(a0, .inr (2, [.ref a1, .ref a2, .int u.1, .int v_rd_3, .int v_rd_4, .int v_rd_5, .int u.2.1, .int u.2.2.1])), (a1, .inr (5, [.ref a3, .int v_tp_1, .int u.2.2.2.1, .int u.2.2.2.2.1, .int u.2.2.2.2.2.1, .long u.2.2.2.2.2.2.1, .int u.2.2.2.2.2.2.2.1])), (a3, .inl (cB, 1300, .inl g_tp_bytes)), (a2, .inr (7, [.int v_M_0, .int v_M_1, .int v_M_2, .ref a4, .ref a5, .int v_M_5, .ref a6, .ref a7, .ref a8, .ref a9, .ref a10, .ref a11, .ref a12, .ref a13, .ref a14])), (a6, .inl (cJ, 6, .inr (.inl g_M_name))), (a12, .inl (cI, 6, .inl u.2.2.2.2.2.2.2.2.1)), (a11, .inl (cI, 6, .inl u.2.2.2.2.2.2.2.2.2))])) := by
  refine k_met (by decide) (Nat.le_of_ble_eq_true rfl) ?_
  intro p e s m below meth c A ls hC hr hlk hnm hN hZ hK hA hP hD hS hl
  have hl : lv_has ls 2 [(0, .ref a0)] := hl
  generalize hQm : MQ below _ _ s _ _ A = Qm
  generalize (List.toArray _ : Array Value) = args at hC hQm ⊢
  obtain ⟨hx, hb, hml, hown, hts⟩ := id hC
  obtain ⟨H, hH⟩ : ∃ q, q = s.heap := ⟨_, rfl⟩
  obtain ⟨locs, hlo⟩ : ∃ q : List Loc, q = [] := ⟨_, rfl⟩
  have hP : va_P G cl [(a0, .inr (2, [.ref a1, .ref a2, .int v_rd_2, .int v_rd_3, .int v_rd_4, .int v_rd_5, .int v_rd_6, .int v_rd_7])), (a1, .inr (5, [.ref a3, .int v_tp_1, .int v_tp_2, .int v_tp_3, .int v_tp_4, .long w_tp_5, .int v_tp_6])), (a3, .inl (cB, 1300, .inl g_tp_bytes)), (a2, .inr (7, [.int v_M_0, .int v_M_1, .int v_M_2, .ref a4, .ref a5, .int v_M_5, .ref a6, .ref a7, .ref a8, .ref a9, .ref a10, .ref a11, .ref a12, .ref a13, .ref a14])), (a6, .inl (cJ, 6, .inr (.inl g_M_name))), (a12, .inl (cI, 6, .inl g_M_masterHigh)), (a11, .inl (cI, 6, .inl g_M_masterLow))] H := by rw [hH]; exact hP
  have hS : va_S A s.heap H locs := by rw [hH, hlo]; exact hS
  rw [← hlo]
  rw [← hH]
  refine lv_aload_n hx hb dX2_readMaster_0 rfl (lv_at hl 0 rfl) ?_
  refine k_get hC hK hP iX2 0 0 wf_X2_12 rfl (by decide) rfl rfl dX2_readMaster_1 ?_
  refine k_cv (wr := [(a0, .inr (2, [.ref a1, .ref a2, .int v_rd_2, .int v_rd_3, .int v_rd_4, .int v_rd_5, .int v_rd_6, .int v_rd_7])), (a2, .inr (7, [.int v_M_0, .int v_M_1, .int v_M_2, .ref a4, .ref a5, .int v_M_5, .ref a6, .ref a7, .ref a8, .ref a9, .ref a10, .ref a11, .ref a12, .ref a13, .ref a14])), (a6, .inl (cJ, 6, .inr (.inl g_M_name))), (a12, .inl (cI, 6, .inl g_M_masterHigh)), (a11, .inl (cI, 6, .inl g_M_masterLow))]) (k_rV hC hN hZ hS hA hK hP hD (c20_X5_advance l G cI cJ cB cZ a1 a3 v_tp_1 v_tp_2 v_tp_3 v_tp_4 w_tp_5 v_tp_6 g_tp_bytes hv_4 hv_5 hv_6 hv_7 hT_g_tp_bytes) [1, 2] rfl (by decide +kernel) mi_X5_advance in_X5_advance se_X5_advance wm_X2_104 5 1 rfl rfl rfl hl.1 rfl rfl (Nat.le_of_ble_eq_true rfl) ⟨(Nat.le_of_ble_eq_true rfl), (Nat.le_of_ble_eq_true rfl)⟩ dX2_readMaster_4 ⟨(Nat.le_of_ble_eq_true rfl), (Nat.le_of_ble_eq_true rfl)⟩) hP hD hS hA [1, 2] [0, 3, 4, 5, 6] rfl rfl (by decide +kernel) (by decide +kernel) (fun u1 H locs hp hP hD hS => ?_)
  obtain ⟨h2, h3, h4, y5, h6⟩ := u1
  have hp : (0 ≤ h2.toInt ∧ h2.toInt ≤ 1300 ∧ 0 ≤ h3.toInt ∧ h3.toInt ≤ 1300 ∧ 0 ≤ h4.toInt ∧ h4.toInt ≤ 4) := hp
  have hP : va_P G cl [(a0, .inr (2, [.ref a1, .ref a2, .int v_rd_2, .int v_rd_3, .int v_rd_4, .int v_rd_5, .int v_rd_6, .int v_rd_7])), (a2, .inr (7, [.int v_M_0, .int v_M_1, .int v_M_2, .ref a4, .ref a5, .int v_M_5, .ref a6, .ref a7, .ref a8, .ref a9, .ref a10, .ref a11, .ref a12, .ref a13, .ref a14])), (a6, .inl (cJ, 6, .inr (.inl g_M_name))), (a12, .inl (cI, 6, .inl g_M_masterHigh)), (a11, .inl (cI, 6, .inl g_M_masterLow)), (a1, .inr (5, [.ref a3, .int v_tp_1, .int h2, .int h3, .int h4, .long y5, .int h6])), (a3, .inl (cB, 1300, .inl g_tp_bytes))] H := hP
  have hD : va_D A [(a0, .inr (2, [.ref a1, .ref a2, .int v_rd_2, .int v_rd_3, .int v_rd_4, .int v_rd_5, .int v_rd_6, .int v_rd_7])), (a2, .inr (7, [.int v_M_0, .int v_M_1, .int v_M_2, .ref a4, .ref a5, .int v_M_5, .ref a6, .ref a7, .ref a8, .ref a9, .ref a10, .ref a11, .ref a12, .ref a13, .ref a14])), (a6, .inl (cJ, 6, .inr (.inl g_M_name))), (a12, .inl (cI, 6, .inl g_M_masterHigh)), (a11, .inl (cI, 6, .inl g_M_masterLow)), (a1, .inr (5, [.ref a3, .int v_tp_1, .int h2, .int h3, .int h4, .long y5, .int h6])), (a3, .inl (cB, 1300, .inl g_tp_bytes))] := hD
  have hq1 := hp
  refine lv_aload_n hx hb dX2_readMaster_7 rfl (lv_at hl 0 rfl) ?_
  refine k_ci (wr := [(a12, .inl (cI, 6, .inl g_M_masterHigh)), (a11, .inl (cI, 6, .inl g_M_masterLow)), (a3, .inl (cB, 1300, .inl g_tp_bytes))]) (k_rV hC hN hZ hS hA hK hP hD (c65_X2_stoneHere l G cI cJ cB cZ a0 a1 a2 a3 a4 a5 a6 a7 a8 a9 a10 a11 a12 a13 a14 v_rd_2 v_rd_3 v_rd_4 v_rd_5 v_rd_6 v_rd_7 v_tp_1 h2 h3 h4 y5 h6 v_M_0 v_M_1 v_M_2 v_M_5 g_M_name hv_0 hv_1 hv_2 hv_3 hv_4 hv_5 (by omega) (by omega) hv_8 hv_9 hv_10 hv_11 hv_12 hv_13) [0, 5, 1, 2] rfl (by decide +kernel) mi_X2_stoneHere in_X2_stoneHere se_X2_stoneHere wm_X2_193 2 0 rfl rfl rfl hl.1 rfl rfl (Nat.le_of_ble_eq_true rfl) ⟨(Nat.le_of_ble_eq_true rfl), (Nat.le_of_ble_eq_true rfl)⟩ dX2_readMaster_8 ⟨(Nat.le_of_ble_eq_true rfl), (Nat.le_of_ble_eq_true rfl)⟩) hP hD hS hA [0, 5, 1, 2] [3, 4, 6] rfl rfl (by decide +kernel) (by decide +kernel) (fun r7 u7 H locs hp hP hD hS => ?_)
  obtain ⟨h8, h9⟩ := u7
  have hp : ((-1) ≤ r7.toInt ∧ r7.toInt ≤ 5) := hp
  have hP : va_P G cl [(a12, .inl (cI, 6, .inl g_M_masterHigh)), (a11, .inl (cI, 6, .inl g_M_masterLow)), (a3, .inl (cB, 1300, .inl g_tp_bytes)), (a0, .inr (2, [.ref a1, .ref a2, .int v_rd_2, .int v_rd_3, .int v_rd_4, .int v_rd_5, .int h8, .int h9])), (a1, .inr (5, [.ref a3, .int v_tp_1, .int h2, .int h3, .int h4, .long y5, .int h6])), (a2, .inr (7, [.int v_M_0, .int v_M_1, .int v_M_2, .ref a4, .ref a5, .int v_M_5, .ref a6, .ref a7, .ref a8, .ref a9, .ref a10, .ref a11, .ref a12, .ref a13, .ref a14])), (a6, .inl (cJ, 6, .inr (.inl g_M_name)))] H := hP
  have hD : va_D A [(a12, .inl (cI, 6, .inl g_M_masterHigh)), (a11, .inl (cI, 6, .inl g_M_masterLow)), (a3, .inl (cB, 1300, .inl g_tp_bytes)), (a0, .inr (2, [.ref a1, .ref a2, .int v_rd_2, .int v_rd_3, .int v_rd_4, .int v_rd_5, .int h8, .int h9])), (a1, .inr (5, [.ref a3, .int v_tp_1, .int h2, .int h3, .int h4, .long y5, .int h6])), (a2, .inr (7, [.int v_M_0, .int v_M_1, .int v_M_2, .ref a4, .ref a5, .int v_M_5, .ref a6, .ref a7, .ref a8, .ref a9, .ref a10, .ref a11, .ref a12, .ref a13, .ref a14])), (a6, .inl (cJ, 6, .inr (.inl g_M_name)))] := hD
  have hq7 := hp
  refine lv_istore_n (lv' := [(1, .int r7), (0, .ref a0)]) hx hb dX2_readMaster_11 rfl hl (by decide) rfl (fun ls hl => ?_)
  refine lv_iload_n hx hb dX2_readMaster_12 rfl (lv_at hl 0 rfl) ?_
  refine lv_if_ge (tgt := 18) hx hb dX2_readMaster_13 (by decide) (fun c10 => ?_) (fun c10 => ?_)
  · have dc10 : 0 ≤ r7.toInt := (fa_le _ _).mp c10
    refine lv_aload_n hx hb dX2_readMaster_18 rfl (lv_at hl 1 rfl) ?_
    refine k_get hC hK hP iX2 3 1 wf_X2_21 rfl (by decide) rfl rfl dX2_readMaster_19 ?_
    refine lv_iload_n hx hb dX2_readMaster_22 rfl (lv_at hl 0 rfl) ?_
    refine k_ci (wr := [(a11, .inl (cI, 6, .inl g_M_masterLow)), (a3, .inl (cB, 1300, .inl g_tp_bytes)), (a0, .inr (2, [.ref a1, .ref a2, .int v_rd_2, .int v_rd_3, .int v_rd_4, .int v_rd_5, .int h8, .int h9])), (a1, .inr (5, [.ref a3, .int v_tp_1, .int h2, .int h3, .int h4, .long y5, .int h6])), (a6, .inl (cJ, 6, .inr (.inl g_M_name)))]) (k_rV hC hN hZ hS hA hK hP hD (c27_X7_hasMaster l G cI cJ cB cZ a2 a4 a5 a6 a7 a8 a9 a10 a11 a12 a13 a14 r7 v_M_0 v_M_1 v_M_2 v_M_5 g_M_masterHigh (by omega) (by omega) hv_8 hv_9 hv_10 hv_11 hv_12 hv_13) [5, 0] rfl (by decide +kernel) mi_X7_hasMaster in_X7_hasMaster se_X7_hasMaster wm_X2_197 7 5 rfl rfl rfl hl.1 rfl rfl (Nat.le_of_ble_eq_true rfl) ⟨(Nat.le_of_ble_eq_true rfl), (Nat.le_of_ble_eq_true rfl)⟩ dX2_readMaster_23 ⟨(Nat.le_of_ble_eq_true rfl), (Nat.le_of_ble_eq_true rfl)⟩) hP hD hS hA [5, 0] [1, 2, 3, 4, 6] rfl rfl (by decide +kernel) (by decide +kernel) (fun r11 u11 H locs hp hP hD hS => ?_)
    have hp : (0 ≤ r11.toInt ∧ r11.toInt ≤ 1) := hp
    have hP : va_P G cl [(a11, .inl (cI, 6, .inl g_M_masterLow)), (a3, .inl (cB, 1300, .inl g_tp_bytes)), (a0, .inr (2, [.ref a1, .ref a2, .int v_rd_2, .int v_rd_3, .int v_rd_4, .int v_rd_5, .int h8, .int h9])), (a1, .inr (5, [.ref a3, .int v_tp_1, .int h2, .int h3, .int h4, .long y5, .int h6])), (a6, .inl (cJ, 6, .inr (.inl g_M_name))), (a2, .inr (7, [.int v_M_0, .int v_M_1, .int v_M_2, .ref a4, .ref a5, .int v_M_5, .ref a6, .ref a7, .ref a8, .ref a9, .ref a10, .ref a11, .ref a12, .ref a13, .ref a14])), (a12, .inl (cI, 6, .inl g_M_masterHigh))] H := hP
    have hD : va_D A [(a11, .inl (cI, 6, .inl g_M_masterLow)), (a3, .inl (cB, 1300, .inl g_tp_bytes)), (a0, .inr (2, [.ref a1, .ref a2, .int v_rd_2, .int v_rd_3, .int v_rd_4, .int v_rd_5, .int h8, .int h9])), (a1, .inr (5, [.ref a3, .int v_tp_1, .int h2, .int h3, .int h4, .long y5, .int h6])), (a6, .inl (cJ, 6, .inr (.inl g_M_name))), (a2, .inr (7, [.int v_M_0, .int v_M_1, .int v_M_2, .ref a4, .ref a5, .int v_M_5, .ref a6, .ref a7, .ref a8, .ref a9, .ref a10, .ref a11, .ref a12, .ref a13, .ref a14])), (a12, .inl (cI, 6, .inl g_M_masterHigh))] := hD
    have hq11 := hp
    refine lv_if_eq (tgt := 35) hx hb dX2_readMaster_26 (by decide) (fun c12 => ?_) (fun c12 => ?_)
    · have dc12 : r11.toInt = 0 := (fa_eq _ _).mp c12
      refine lv_aload_n hx hb dX2_readMaster_35 rfl (lv_at hl 1 rfl) ?_
      refine k_get hC hK hP iX2 2 0 wf_X2_12 rfl (by decide) rfl rfl dX2_readMaster_36 ?_
      refine k_cv (wr := [(a11, .inl (cI, 6, .inl g_M_masterLow)), (a0, .inr (2, [.ref a1, .ref a2, .int v_rd_2, .int v_rd_3, .int v_rd_4, .int v_rd_5, .int h8, .int h9])), (a6, .inl (cJ, 6, .inr (.inl g_M_name))), (a2, .inr (7, [.int v_M_0, .int v_M_1, .int v_M_2, .ref a4, .ref a5, .int v_M_5, .ref a6, .ref a7, .ref a8, .ref a9, .ref a10, .ref a11, .ref a12, .ref a13, .ref a14])), (a12, .inl (cI, 6, .inl g_M_masterHigh))]) (k_rV hC hN hZ hS hA hK hP hD (c20_X5_advance l G cI cJ cB cZ a1 a3 v_tp_1 h2 h3 h4 y5 h6 g_tp_bytes hv_4 hv_5 (by omega) (by omega) hT_g_tp_bytes) [3, 1] rfl (by decide +kernel) mi_X5_advance in_X5_advance se_X5_advance wm_X2_104 5 3 rfl rfl rfl hl.1 rfl rfl (Nat.le_of_ble_eq_true rfl) ⟨(Nat.le_of_ble_eq_true rfl), (Nat.le_of_ble_eq_true rfl)⟩ dX2_readMaster_39 ⟨(Nat.le_of_ble_eq_true rfl), (Nat.le_of_ble_eq_true rfl)⟩) hP hD hS hA [3, 1] [0, 2, 4, 5, 6] rfl rfl (by decide +kernel) (by decide +kernel) (fun u13 H locs hp hP hD hS => ?_)
      obtain ⟨h14, h15, h16, y17, h18⟩ := u13
      have hp : (0 ≤ h14.toInt ∧ h14.toInt ≤ 1300 ∧ 0 ≤ h15.toInt ∧ h15.toInt ≤ 1300 ∧ 0 ≤ h16.toInt ∧ h16.toInt ≤ 4) := hp
      have hP : va_P G cl [(a11, .inl (cI, 6, .inl g_M_masterLow)), (a0, .inr (2, [.ref a1, .ref a2, .int v_rd_2, .int v_rd_3, .int v_rd_4, .int v_rd_5, .int h8, .int h9])), (a6, .inl (cJ, 6, .inr (.inl g_M_name))), (a2, .inr (7, [.int v_M_0, .int v_M_1, .int v_M_2, .ref a4, .ref a5, .int v_M_5, .ref a6, .ref a7, .ref a8, .ref a9, .ref a10, .ref a11, .ref a12, .ref a13, .ref a14])), (a12, .inl (cI, 6, .inl g_M_masterHigh)), (a1, .inr (5, [.ref a3, .int v_tp_1, .int h14, .int h15, .int h16, .long y17, .int h18])), (a3, .inl (cB, 1300, .inl g_tp_bytes))] H := hP
      have hD : va_D A [(a11, .inl (cI, 6, .inl g_M_masterLow)), (a0, .inr (2, [.ref a1, .ref a2, .int v_rd_2, .int v_rd_3, .int v_rd_4, .int v_rd_5, .int h8, .int h9])), (a6, .inl (cJ, 6, .inr (.inl g_M_name))), (a2, .inr (7, [.int v_M_0, .int v_M_1, .int v_M_2, .ref a4, .ref a5, .int v_M_5, .ref a6, .ref a7, .ref a8, .ref a9, .ref a10, .ref a11, .ref a12, .ref a13, .ref a14])), (a12, .inl (cI, 6, .inl g_M_masterHigh)), (a1, .inr (5, [.ref a3, .int v_tp_1, .int h14, .int h15, .int h16, .long y17, .int h18])), (a3, .inl (cB, 1300, .inl g_tp_bytes))] := hD
      have hq13 := hp
      refine lv_aload_n hx hb dX2_readMaster_42 rfl (lv_at hl 1 rfl) ?_
      refine lv_ldc2 (v := 1718775661) hx hb hown (hts _ kl_X2_137) dX2_readMaster_43 ?_
      refine k_ci (wr := [(a11, .inl (cI, 6, .inl g_M_masterLow)), (a6, .inl (cJ, 6, .inr (.inl g_M_name))), (a2, .inr (7, [.int v_M_0, .int v_M_1, .int v_M_2, .ref a4, .ref a5, .int v_M_5, .ref a6, .ref a7, .ref a8, .ref a9, .ref a10, .ref a11, .ref a12, .ref a13, .ref a14])), (a12, .inl (cI, 6, .inl g_M_masterHigh))]) (k_rV hC hN hZ hS hA hK hP hD (c49_X2_takeWord l G cI cJ cB cZ a0 a1 a2 a3 1718775661 v_rd_2 v_rd_3 v_rd_4 v_rd_5 h8 h9 v_tp_1 h14 h15 h16 y17 h18 g_tp_bytes hv_0 hv_1 hv_2 hv_3 hv_4 hv_5 (by omega) (by omega) hT_g_tp_bytes) [1, 5, 6] rfl (by decide +kernel) mi_X2_takeWord in_X2_takeWord se_X2_takeWord wm_X2_113 2 1 rfl rfl rfl hl.1 rfl rfl (Nat.le_of_ble_eq_true rfl) ⟨(Nat.le_of_ble_eq_true rfl), (Nat.le_of_ble_eq_true rfl)⟩ dX2_readMaster_46 ⟨(Nat.le_of_ble_eq_true rfl), (Nat.le_of_ble_eq_true rfl)⟩) hP hD hS hA [1, 5, 6] [0, 2, 3, 4] rfl rfl (by decide +kernel) (by decide +kernel) (fun r19 u19 H locs hp hP hD hS => ?_)
      obtain ⟨h20, h21, h22, h23, h24, y25, h26⟩ := u19
      have hp : (0 ≤ r19.toInt ∧ r19.toInt ≤ 1 ∧ 0 ≤ h22.toInt ∧ h22.toInt ≤ 1300) := hp
      have hP : va_P G cl [(a11, .inl (cI, 6, .inl g_M_masterLow)), (a6, .inl (cJ, 6, .inr (.inl g_M_name))), (a2, .inr (7, [.int v_M_0, .int v_M_1, .int v_M_2, .ref a4, .ref a5, .int v_M_5, .ref a6, .ref a7, .ref a8, .ref a9, .ref a10, .ref a11, .ref a12, .ref a13, .ref a14])), (a12, .inl (cI, 6, .inl g_M_masterHigh)), (a0, .inr (2, [.ref a1, .ref a2, .int v_rd_2, .int v_rd_3, .int v_rd_4, .int v_rd_5, .int h20, .int h21])), (a1, .inr (5, [.ref a3, .int v_tp_1, .int h22, .int h23, .int h24, .long y25, .int h26])), (a3, .inl (cB, 1300, .inl g_tp_bytes))] H := hP
      have hD : va_D A [(a11, .inl (cI, 6, .inl g_M_masterLow)), (a6, .inl (cJ, 6, .inr (.inl g_M_name))), (a2, .inr (7, [.int v_M_0, .int v_M_1, .int v_M_2, .ref a4, .ref a5, .int v_M_5, .ref a6, .ref a7, .ref a8, .ref a9, .ref a10, .ref a11, .ref a12, .ref a13, .ref a14])), (a12, .inl (cI, 6, .inl g_M_masterHigh)), (a0, .inr (2, [.ref a1, .ref a2, .int v_rd_2, .int v_rd_3, .int v_rd_4, .int v_rd_5, .int h20, .int h21])), (a1, .inr (5, [.ref a3, .int v_tp_1, .int h22, .int h23, .int h24, .long y25, .int h26])), (a3, .inl (cB, 1300, .inl g_tp_bytes))] := hD
      have hq19 := hp
      refine lv_if_eq (tgt := 63) hx hb dX2_readMaster_49 (by decide) (fun c27 => ?_) (fun c27 => ?_)
      · have dc27 : r19.toInt = 0 := (fa_eq _ _).mp c27
        refine lv_iconst (v := 0) hx hb dX2_readMaster_63 (by decide) ?_
        have l_l28 : (0 : Int32).toInt = 0 := rfl
        rw [← hQm]
        exact k_zret hC hr hlk hK hP hD hS (v_rd_2, h20, h21, h22, h23, h24, y25, h26, g_M_masterHigh, g_M_masterLow) [4, 5, 6, 2, 1, 3, 0] rfl (by decide +kernel) rfl (show 0 ≤ (0 : Int32).toInt ∧ (0 : Int32).toInt ≤ 1 ∧ 0 ≤ h22.toInt ∧ h22.toInt ≤ 1300 from by omega) (Nat.le_of_ble_eq_true rfl) (Nat.le_of_ble_eq_true rfl) dX2_readMaster_64
      · have dc27 : r19.toInt ≠ 0 := fa_ne c27
        refine lv_aload_n hx hb dX2_readMaster_52 rfl (lv_at hl 1 rfl) ?_
        refine lv_iconst (v := 0) hx hb dX2_readMaster_53 (by decide) ?_
        refine lv_sipush (v := 400) hx hb dX2_readMaster_54 (by decide) ?_
        refine k_ci (wr := [(a11, .inl (cI, 6, .inl g_M_masterLow)), (a6, .inl (cJ, 6, .inr (.inl g_M_name))), (a2, .inr (7, [.int v_M_0, .int v_M_1, .int v_M_2, .ref a4, .ref a5, .int v_M_5, .ref a6, .ref a7, .ref a8, .ref a9, .ref a10, .ref a11, .ref a12, .ref a13, .ref a14])), (a12, .inl (cI, 6, .inl g_M_masterHigh))]) (k_rV hC hN hZ hS hA hK hP hD (c66_X2_takeNumber l G cI cJ cB cZ a0 a1 a2 a3 v_rd_2 v_rd_3 v_rd_4 v_rd_5 h20 h21 v_tp_1 h22 h23 h24 y25 h26 g_tp_bytes hv_0 hv_1 hv_2 hv_3 hv_4 hv_5 (by omega) (by omega) hT_g_tp_bytes) [4, 5, 6] rfl (by decide +kernel) mi_X2_takeNumber in_X2_takeNumber se_X2_takeNumber wm_X2_107 2 4 rfl rfl rfl hl.1 rfl rfl (Nat.le_of_ble_eq_true rfl) ⟨(Nat.le_of_ble_eq_true rfl), (Nat.le_of_ble_eq_true rfl)⟩ dX2_readMaster_57 ⟨(Nat.le_of_ble_eq_true rfl), (Nat.le_of_ble_eq_true rfl)⟩) hP hD hS hA [4, 5, 6] [0, 1, 2, 3] rfl rfl (by decide +kernel) (by decide +kernel) (fun r29 u29 H locs hp hP hD hS => ?_)
        obtain ⟨h30, h31, h32, h33, h34, h35, y36, h37⟩ := u29
        have hP : va_P G cl [(a11, .inl (cI, 6, .inl g_M_masterLow)), (a6, .inl (cJ, 6, .inr (.inl g_M_name))), (a2, .inr (7, [.int v_M_0, .int v_M_1, .int v_M_2, .ref a4, .ref a5, .int v_M_5, .ref a6, .ref a7, .ref a8, .ref a9, .ref a10, .ref a11, .ref a12, .ref a13, .ref a14])), (a12, .inl (cI, 6, .inl g_M_masterHigh)), (a0, .inr (2, [.ref a1, .ref a2, .int h30, .int v_rd_3, .int v_rd_4, .int v_rd_5, .int h31, .int h32])), (a1, .inr (5, [.ref a3, .int v_tp_1, .int h33, .int h34, .int h35, .long y36, .int h37])), (a3, .inl (cB, 1300, .inl g_tp_bytes))] H := hP
        have hD : va_D A [(a11, .inl (cI, 6, .inl g_M_masterLow)), (a6, .inl (cJ, 6, .inr (.inl g_M_name))), (a2, .inr (7, [.int v_M_0, .int v_M_1, .int v_M_2, .ref a4, .ref a5, .int v_M_5, .ref a6, .ref a7, .ref a8, .ref a9, .ref a10, .ref a11, .ref a12, .ref a13, .ref a14])), (a12, .inl (cI, 6, .inl g_M_masterHigh)), (a0, .inr (2, [.ref a1, .ref a2, .int h30, .int v_rd_3, .int v_rd_4, .int v_rd_5, .int h31, .int h32])), (a1, .inr (5, [.ref a3, .int v_tp_1, .int h33, .int h34, .int h35, .long y36, .int h37])), (a3, .inl (cB, 1300, .inl g_tp_bytes))] := hD
        rcases (show (r29 = 0 ∧ (0 ≤ h33.toInt ∧ h33.toInt ≤ 1300)) ∨ (r29 = 1 ∧ (0 ≤ h30.toInt ∧ h30.toInt ≤ 400 ∧ 0 ≤ h33.toInt ∧ h33.toInt ≤ 1300 ∧ 0 ≤ h34.toInt ∧ h34.toInt ≤ 1300 ∧ 0 ≤ h35.toInt ∧ h35.toInt ≤ 4)) from hp) with ⟨rfl, hq29⟩ | ⟨rfl, hq29⟩
        · clear hp
          have l_29 : (0 : Int32).toInt = 0 := rfl
          refine lv_if_ne (tgt := 65) hx hb dX2_readMaster_60 (by decide) (fun c_ => absurd (by decide +kernel) c_) (fun _ => ?_)
          refine lv_iconst (v := 0) hx hb dX2_readMaster_63 (by decide) ?_
          have l_l38 : (0 : Int32).toInt = 0 := rfl
          rw [← hQm]
          exact k_zret hC hr hlk hK hP hD hS (h30, h31, h32, h33, h34, h35, y36, h37, g_M_masterHigh, g_M_masterLow) [4, 5, 6, 2, 1, 3, 0] rfl (by decide +kernel) rfl (show 0 ≤ (0 : Int32).toInt ∧ (0 : Int32).toInt ≤ 1 ∧ 0 ≤ h33.toInt ∧ h33.toInt ≤ 1300 from by omega) (Nat.le_of_ble_eq_true rfl) (Nat.le_of_ble_eq_true rfl) dX2_readMaster_64
        · clear hp
          have l_29 : (1 : Int32).toInt = 1 := rfl
          refine lv_if_ne (tgt := 65) hx hb dX2_readMaster_60 (by decide) (fun _ => ?_) (fun c_ => absurd c_ (by decide +kernel))
          refine lv_aload_n hx hb dX2_readMaster_65 rfl (lv_at hl 1 rfl) ?_
          refine k_get hC hK hP iX2 4 1 wf_X2_21 rfl (by decide) rfl rfl dX2_readMaster_66 ?_
          refine k_getN hC hN hK hP iX7 2 11 wf_X2_187 rfl (by decide) rfl rfl dX2_readMaster_69 ?_
          refine lv_iload_n hx hb dX2_readMaster_72 rfl (lv_at hl 0 rfl) ?_
          refine lv_aload_n hx hb dX2_readMaster_73 rfl (lv_at hl 1 rfl) ?_
          refine k_get hC hK hP iX2 4 2 wf_X2_25 rfl (by decide) rfl rfl dX2_readMaster_74 ?_
          refine t_iast hC hK hP hD hS 0 rfl (by omega) (by omega) (TA.all _) ⟨i_lo _, i_hi _⟩ dX2_readMaster_77 (fun f39 H locs hT_f39 hP hD hS => ?_)
          have hP : va_P G cl [(a11, .inl (cI, 6, .inl f39)), (a6, .inl (cJ, 6, .inr (.inl g_M_name))), (a2, .inr (7, [.int v_M_0, .int v_M_1, .int v_M_2, .ref a4, .ref a5, .int v_M_5, .ref a6, .ref a7, .ref a8, .ref a9, .ref a10, .ref a11, .ref a12, .ref a13, .ref a14])), (a12, .inl (cI, 6, .inl g_M_masterHigh)), (a0, .inr (2, [.ref a1, .ref a2, .int h30, .int v_rd_3, .int v_rd_4, .int v_rd_5, .int h31, .int h32])), (a1, .inr (5, [.ref a3, .int v_tp_1, .int h33, .int h34, .int h35, .long y36, .int h37])), (a3, .inl (cB, 1300, .inl g_tp_bytes))] H := hP
          have hD : va_D A [(a11, .inl (cI, 6, .inl f39)), (a6, .inl (cJ, 6, .inr (.inl g_M_name))), (a2, .inr (7, [.int v_M_0, .int v_M_1, .int v_M_2, .ref a4, .ref a5, .int v_M_5, .ref a6, .ref a7, .ref a8, .ref a9, .ref a10, .ref a11, .ref a12, .ref a13, .ref a14])), (a12, .inl (cI, 6, .inl g_M_masterHigh)), (a0, .inr (2, [.ref a1, .ref a2, .int h30, .int v_rd_3, .int v_rd_4, .int v_rd_5, .int h31, .int h32])), (a1, .inr (5, [.ref a3, .int v_tp_1, .int h33, .int h34, .int h35, .long y36, .int h37])), (a3, .inl (cB, 1300, .inl g_tp_bytes))] := hD
          refine lv_aload_n hx hb dX2_readMaster_78 rfl (lv_at hl 1 rfl) ?_
          refine lv_ldc2 (v := 29807) hx hb hown (hts _ kl_X2_111) dX2_readMaster_79 ?_
          refine k_ci (wr := [(a11, .inl (cI, 6, .inl f39)), (a6, .inl (cJ, 6, .inr (.inl g_M_name))), (a2, .inr (7, [.int v_M_0, .int v_M_1, .int v_M_2, .ref a4, .ref a5, .int v_M_5, .ref a6, .ref a7, .ref a8, .ref a9, .ref a10, .ref a11, .ref a12, .ref a13, .ref a14])), (a12, .inl (cI, 6, .inl g_M_masterHigh))]) (k_rV hC hN hZ hS hA hK hP hD (c49_X2_takeWord l G cI cJ cB cZ a0 a1 a2 a3 29807 h30 v_rd_3 v_rd_4 v_rd_5 h31 h32 v_tp_1 h33 h34 h35 y36 h37 g_tp_bytes hv_0 hv_1 hv_2 hv_3 hv_4 hv_5 (by omega) (by omega) hT_g_tp_bytes) [4, 5, 6] rfl (by decide +kernel) mi_X2_takeWord in_X2_takeWord se_X2_takeWord wm_X2_113 2 4 rfl rfl rfl hl.1 rfl rfl (Nat.le_of_ble_eq_true rfl) ⟨(Nat.le_of_ble_eq_true rfl), (Nat.le_of_ble_eq_true rfl)⟩ dX2_readMaster_82 ⟨(Nat.le_of_ble_eq_true rfl), (Nat.le_of_ble_eq_true rfl)⟩) hP hD hS hA [4, 5, 6] [0, 1, 2, 3] rfl rfl (by decide +kernel) (by decide +kernel) (fun r40 u40 H locs hp hP hD hS => ?_)
          obtain ⟨h41, h42, h43, h44, h45, y46, h47⟩ := u40
          have hp : (0 ≤ r40.toInt ∧ r40.toInt ≤ 1 ∧ 0 ≤ h43.toInt ∧ h43.toInt ≤ 1300) := hp
          have hP : va_P G cl [(a11, .inl (cI, 6, .inl f39)), (a6, .inl (cJ, 6, .inr (.inl g_M_name))), (a2, .inr (7, [.int v_M_0, .int v_M_1, .int v_M_2, .ref a4, .ref a5, .int v_M_5, .ref a6, .ref a7, .ref a8, .ref a9, .ref a10, .ref a11, .ref a12, .ref a13, .ref a14])), (a12, .inl (cI, 6, .inl g_M_masterHigh)), (a0, .inr (2, [.ref a1, .ref a2, .int h30, .int v_rd_3, .int v_rd_4, .int v_rd_5, .int h41, .int h42])), (a1, .inr (5, [.ref a3, .int v_tp_1, .int h43, .int h44, .int h45, .long y46, .int h47])), (a3, .inl (cB, 1300, .inl g_tp_bytes))] H := hP
          have hD : va_D A [(a11, .inl (cI, 6, .inl f39)), (a6, .inl (cJ, 6, .inr (.inl g_M_name))), (a2, .inr (7, [.int v_M_0, .int v_M_1, .int v_M_2, .ref a4, .ref a5, .int v_M_5, .ref a6, .ref a7, .ref a8, .ref a9, .ref a10, .ref a11, .ref a12, .ref a13, .ref a14])), (a12, .inl (cI, 6, .inl g_M_masterHigh)), (a0, .inr (2, [.ref a1, .ref a2, .int h30, .int v_rd_3, .int v_rd_4, .int v_rd_5, .int h41, .int h42])), (a1, .inr (5, [.ref a3, .int v_tp_1, .int h43, .int h44, .int h45, .long y46, .int h47])), (a3, .inl (cB, 1300, .inl g_tp_bytes))] := hD
          have hq40 := hp
          refine lv_if_eq (tgt := 107) hx hb dX2_readMaster_85 (by decide) (fun c48 => ?_) (fun c48 => ?_)
          · have dc48 : r40.toInt = 0 := (fa_eq _ _).mp c48
            refine lv_iconst (v := 0) hx hb dX2_readMaster_107 (by decide) ?_
            have l_l49 : (0 : Int32).toInt = 0 := rfl
            rw [← hQm]
            exact k_zret hC hr hlk hK hP hD hS (h30, h41, h42, h43, h44, h45, y46, h47, g_M_masterHigh, f39) [4, 5, 6, 2, 1, 3, 0] rfl (by decide +kernel) rfl (show 0 ≤ (0 : Int32).toInt ∧ (0 : Int32).toInt ≤ 1 ∧ 0 ≤ h43.toInt ∧ h43.toInt ≤ 1300 from by omega) (Nat.le_of_ble_eq_true rfl) (Nat.le_of_ble_eq_true rfl) dX2_readMaster_108
          · have dc48 : r40.toInt ≠ 0 := fa_ne c48
            refine lv_aload_n hx hb dX2_readMaster_88 rfl (lv_at hl 1 rfl) ?_
            refine lv_aload_n hx hb dX2_readMaster_89 rfl (lv_at hl 1 rfl) ?_
            refine k_get hC hK hP iX2 4 1 wf_X2_21 rfl (by decide) rfl rfl dX2_readMaster_90 ?_
            refine k_getN hC hN hK hP iX7 2 11 wf_X2_187 rfl (by decide) rfl rfl dX2_readMaster_93 ?_
            refine lv_iload_n hx hb dX2_readMaster_96 rfl (lv_at hl 0 rfl) ?_
            refine t_iald hC hK hP 0 rfl (by omega) (by omega) (TA.all _) dX2_readMaster_97 (fun z50 tz50 => ?_)
            refine lv_sipush (v := 400) hx hb dX2_readMaster_98 (by decide) ?_
            refine k_ci (wr := [(a11, .inl (cI, 6, .inl f39)), (a6, .inl (cJ, 6, .inr (.inl g_M_name))), (a2, .inr (7, [.int v_M_0, .int v_M_1, .int v_M_2, .ref a4, .ref a5, .int v_M_5, .ref a6, .ref a7, .ref a8, .ref a9, .ref a10, .ref a11, .ref a12, .ref a13, .ref a14])), (a12, .inl (cI, 6, .inl g_M_masterHigh))]) (k_rV hC hN hZ hS hA hK hP hD (c67_X2_takeNumber l G cI cJ cB cZ a0 a1 a2 a3 z50 h30 v_rd_3 v_rd_4 v_rd_5 h41 h42 v_tp_1 h43 h44 h45 y46 h47 g_tp_bytes hv_0 hv_1 hv_2 hv_3 hv_4 hv_5 (by omega) (by omega) hT_g_tp_bytes) [4, 5, 6] rfl (by decide +kernel) mi_X2_takeNumber in_X2_takeNumber se_X2_takeNumber wm_X2_107 2 4 rfl rfl rfl hl.1 rfl rfl (Nat.le_of_ble_eq_true rfl) ⟨(Nat.le_of_ble_eq_true rfl), (Nat.le_of_ble_eq_true rfl)⟩ dX2_readMaster_101 ⟨(Nat.le_of_ble_eq_true rfl), (Nat.le_of_ble_eq_true rfl)⟩) hP hD hS hA [4, 5, 6] [0, 1, 2, 3] rfl rfl (by decide +kernel) (by decide +kernel) (fun r51 u51 H locs hp hP hD hS => ?_)
            obtain ⟨h52, h53, h54, h55, h56, h57, y58, h59⟩ := u51
            have hP : va_P G cl [(a11, .inl (cI, 6, .inl f39)), (a6, .inl (cJ, 6, .inr (.inl g_M_name))), (a2, .inr (7, [.int v_M_0, .int v_M_1, .int v_M_2, .ref a4, .ref a5, .int v_M_5, .ref a6, .ref a7, .ref a8, .ref a9, .ref a10, .ref a11, .ref a12, .ref a13, .ref a14])), (a12, .inl (cI, 6, .inl g_M_masterHigh)), (a0, .inr (2, [.ref a1, .ref a2, .int h52, .int v_rd_3, .int v_rd_4, .int v_rd_5, .int h53, .int h54])), (a1, .inr (5, [.ref a3, .int v_tp_1, .int h55, .int h56, .int h57, .long y58, .int h59])), (a3, .inl (cB, 1300, .inl g_tp_bytes))] H := hP
            have hD : va_D A [(a11, .inl (cI, 6, .inl f39)), (a6, .inl (cJ, 6, .inr (.inl g_M_name))), (a2, .inr (7, [.int v_M_0, .int v_M_1, .int v_M_2, .ref a4, .ref a5, .int v_M_5, .ref a6, .ref a7, .ref a8, .ref a9, .ref a10, .ref a11, .ref a12, .ref a13, .ref a14])), (a12, .inl (cI, 6, .inl g_M_masterHigh)), (a0, .inr (2, [.ref a1, .ref a2, .int h52, .int v_rd_3, .int v_rd_4, .int v_rd_5, .int h53, .int h54])), (a1, .inr (5, [.ref a3, .int v_tp_1, .int h55, .int h56, .int h57, .long y58, .int h59])), (a3, .inl (cB, 1300, .inl g_tp_bytes))] := hD
            rcases (show (r51 = 0 ∧ (0 ≤ h55.toInt ∧ h55.toInt ≤ 1300)) ∨ (r51 = 1 ∧ (h52.toInt ≤ 400 ∧ 0 ≤ h55.toInt ∧ h55.toInt ≤ 1300 ∧ 0 ≤ h56.toInt ∧ h56.toInt ≤ 1300 ∧ 0 ≤ h57.toInt ∧ h57.toInt ≤ 4)) from hp) with ⟨rfl, hq51⟩ | ⟨rfl, hq51⟩
            · clear hp
              have l_51 : (0 : Int32).toInt = 0 := rfl
              refine lv_if_ne (tgt := 109) hx hb dX2_readMaster_104 (by decide) (fun c_ => absurd (by decide +kernel) c_) (fun _ => ?_)
              refine lv_iconst (v := 0) hx hb dX2_readMaster_107 (by decide) ?_
              have l_l60 : (0 : Int32).toInt = 0 := rfl
              rw [← hQm]
              exact k_zret hC hr hlk hK hP hD hS (h52, h53, h54, h55, h56, h57, y58, h59, g_M_masterHigh, f39) [4, 5, 6, 2, 1, 3, 0] rfl (by decide +kernel) rfl (show 0 ≤ (0 : Int32).toInt ∧ (0 : Int32).toInt ≤ 1 ∧ 0 ≤ h55.toInt ∧ h55.toInt ≤ 1300 from by omega) (Nat.le_of_ble_eq_true rfl) (Nat.le_of_ble_eq_true rfl) dX2_readMaster_108
            · clear hp
              have l_51 : (1 : Int32).toInt = 1 := rfl
              refine lv_if_ne (tgt := 109) hx hb dX2_readMaster_104 (by decide) (fun _ => ?_) (fun c_ => absurd c_ (by decide +kernel))
              refine lv_aload_n hx hb dX2_readMaster_109 rfl (lv_at hl 1 rfl) ?_
              refine k_get hC hK hP iX2 4 1 wf_X2_21 rfl (by decide) rfl rfl dX2_readMaster_110 ?_
              refine k_getN hC hN hK hP iX7 2 12 wf_X2_190 rfl (by decide) rfl rfl dX2_readMaster_113 ?_
              refine lv_iload_n hx hb dX2_readMaster_116 rfl (lv_at hl 0 rfl) ?_
              refine lv_aload_n hx hb dX2_readMaster_117 rfl (lv_at hl 1 rfl) ?_
              refine k_get hC hK hP iX2 4 2 wf_X2_25 rfl (by decide) rfl rfl dX2_readMaster_118 ?_
              refine t_iast hC hK hP hD hS 3 rfl (by omega) (by omega) (TA.all _) ⟨i_lo _, i_hi _⟩ dX2_readMaster_121 (fun f61 H locs hT_f61 hP hD hS => ?_)
              have hP : va_P G cl [(a11, .inl (cI, 6, .inl f39)), (a6, .inl (cJ, 6, .inr (.inl g_M_name))), (a2, .inr (7, [.int v_M_0, .int v_M_1, .int v_M_2, .ref a4, .ref a5, .int v_M_5, .ref a6, .ref a7, .ref a8, .ref a9, .ref a10, .ref a11, .ref a12, .ref a13, .ref a14])), (a12, .inl (cI, 6, .inl f61)), (a0, .inr (2, [.ref a1, .ref a2, .int h52, .int v_rd_3, .int v_rd_4, .int v_rd_5, .int h53, .int h54])), (a1, .inr (5, [.ref a3, .int v_tp_1, .int h55, .int h56, .int h57, .long y58, .int h59])), (a3, .inl (cB, 1300, .inl g_tp_bytes))] H := hP
              have hD : va_D A [(a11, .inl (cI, 6, .inl f39)), (a6, .inl (cJ, 6, .inr (.inl g_M_name))), (a2, .inr (7, [.int v_M_0, .int v_M_1, .int v_M_2, .ref a4, .ref a5, .int v_M_5, .ref a6, .ref a7, .ref a8, .ref a9, .ref a10, .ref a11, .ref a12, .ref a13, .ref a14])), (a12, .inl (cI, 6, .inl f61)), (a0, .inr (2, [.ref a1, .ref a2, .int h52, .int v_rd_3, .int v_rd_4, .int v_rd_5, .int h53, .int h54])), (a1, .inr (5, [.ref a3, .int v_tp_1, .int h55, .int h56, .int h57, .long y58, .int h59])), (a3, .inl (cB, 1300, .inl g_tp_bytes))] := hD
              refine lv_aload_n hx hb dX2_readMaster_122 rfl (lv_at hl 1 rfl) ?_
              refine k_ci (wr := [(a11, .inl (cI, 6, .inl f39)), (a6, .inl (cJ, 6, .inr (.inl g_M_name))), (a2, .inr (7, [.int v_M_0, .int v_M_1, .int v_M_2, .ref a4, .ref a5, .int v_M_5, .ref a6, .ref a7, .ref a8, .ref a9, .ref a10, .ref a11, .ref a12, .ref a13, .ref a14])), (a12, .inl (cI, 6, .inl f61))]) (k_rV hC hN hZ hS hA hK hP hD (c51_X2_takeSign l G cI cJ cB cZ a0 a1 a2 a3 h52 v_rd_3 v_rd_4 v_rd_5 h53 h54 v_tp_1 h55 h56 h57 y58 h59 g_tp_bytes hv_0 hv_1 hv_2 hv_3 hv_4 hv_5 (by omega) (by omega) hT_g_tp_bytes) [4, 5, 6] rfl (by decide +kernel) mi_X2_takeSign in_X2_takeSign se_X2_takeSign wm_X2_128 2 4 rfl rfl rfl hl.1 rfl rfl (Nat.le_of_ble_eq_true rfl) ⟨(Nat.le_of_ble_eq_true rfl), (Nat.le_of_ble_eq_true rfl)⟩ dX2_readMaster_123 ⟨(Nat.le_of_ble_eq_true rfl), (Nat.le_of_ble_eq_true rfl)⟩) hP hD hS hA [4, 5, 6] [0, 1, 2, 3] rfl rfl (by decide +kernel) (by decide +kernel) (fun r62 u62 H locs hp hP hD hS => ?_)
              obtain ⟨h63, h64, h65, h66, h67, y68, h69⟩ := u62
              have hp : (0 ≤ r62.toInt ∧ r62.toInt ≤ 1 ∧ 0 ≤ h65.toInt ∧ h65.toInt ≤ 1300) := hp
              have hP : va_P G cl [(a11, .inl (cI, 6, .inl f39)), (a6, .inl (cJ, 6, .inr (.inl g_M_name))), (a2, .inr (7, [.int v_M_0, .int v_M_1, .int v_M_2, .ref a4, .ref a5, .int v_M_5, .ref a6, .ref a7, .ref a8, .ref a9, .ref a10, .ref a11, .ref a12, .ref a13, .ref a14])), (a12, .inl (cI, 6, .inl f61)), (a0, .inr (2, [.ref a1, .ref a2, .int h52, .int v_rd_3, .int v_rd_4, .int v_rd_5, .int h63, .int h64])), (a1, .inr (5, [.ref a3, .int v_tp_1, .int h65, .int h66, .int h67, .long y68, .int h69])), (a3, .inl (cB, 1300, .inl g_tp_bytes))] H := hP
              have hD : va_D A [(a11, .inl (cI, 6, .inl f39)), (a6, .inl (cJ, 6, .inr (.inl g_M_name))), (a2, .inr (7, [.int v_M_0, .int v_M_1, .int v_M_2, .ref a4, .ref a5, .int v_M_5, .ref a6, .ref a7, .ref a8, .ref a9, .ref a10, .ref a11, .ref a12, .ref a13, .ref a14])), (a12, .inl (cI, 6, .inl f61)), (a0, .inr (2, [.ref a1, .ref a2, .int h52, .int v_rd_3, .int v_rd_4, .int v_rd_5, .int h63, .int h64])), (a1, .inr (5, [.ref a3, .int v_tp_1, .int h65, .int h66, .int h67, .long y68, .int h69])), (a3, .inl (cB, 1300, .inl g_tp_bytes))] := hD
              have hq62 := hp
              rw [← hQm]
              exact k_zret hC hr hlk hK hP hD hS (h52, h63, h64, h65, h66, h67, y68, h69, f61, f39) [4, 5, 6, 2, 1, 3, 0] rfl (by decide +kernel) (nar_bool (by omega) (by omega)) (show 0 ≤ r62.toInt ∧ r62.toInt ≤ 1 ∧ 0 ≤ h65.toInt ∧ h65.toInt ≤ 1300 from by omega) (Nat.le_of_ble_eq_true rfl) (Nat.le_of_ble_eq_true rfl) dX2_readMaster_126
    · have dc12 : r11.toInt ≠ 0 := fa_ne c12
      refine lv_aload_n hx hb dX2_readMaster_29 rfl (lv_at hl 1 rfl) ?_
      refine lv_iconst (v := 3) hx hb dX2_readMaster_30 (by decide) ?_
      have l_l71 : (3 : Int32).toInt = 3 := rfl
      refine k_ci (wr := [(a11, .inl (cI, 6, .inl g_M_masterLow)), (a3, .inl (cB, 1300, .inl g_tp_bytes)), (a6, .inl (cJ, 6, .inr (.inl g_M_name))), (a2, .inr (7, [.int v_M_0, .int v_M_1, .int v_M_2, .ref a4, .ref a5, .int v_M_5, .ref a6, .ref a7, .ref a8, .ref a9, .ref a10, .ref a11, .ref a12, .ref a13, .ref a14])), (a12, .inl (cI, 6, .inl g_M_masterHigh))]) (k_rV hC hN hZ hS hA hK hP hD (c47_X2_refuse l G cI cJ cB cZ a0 a1 a2 a3 3 v_rd_2 v_rd_3 v_rd_4 v_rd_5 h8 h9 v_tp_1 h2 h3 h4 y5 h6 hv_0 hv_1 hv_2 hv_3 hv_4 hv_5 (by omega) (by omega)) [2, 3] rfl (by decide +kernel) mi_X2_refuse in_X2_refuse se_X2_refuse wm_X2_100 2 2 rfl rfl rfl hl.1 rfl rfl (Nat.le_of_ble_eq_true rfl) ⟨(Nat.le_of_ble_eq_true rfl), (Nat.le_of_ble_eq_true rfl)⟩ dX2_readMaster_31 ⟨(Nat.le_of_ble_eq_true rfl), (Nat.le_of_ble_eq_true rfl)⟩) hP hD hS hA [2, 3] [0, 1, 4, 5, 6] rfl rfl (by decide +kernel) (by decide +kernel) (fun r70 u70 H locs hp hP hD hS => ?_)
      obtain ⟨h72, h73⟩ := u70
      have hp : (r70 = 0 ∧ True) := hp
      obtain rfl : r70 = 0 := hp.1
      have hP : va_P G cl [(a11, .inl (cI, 6, .inl g_M_masterLow)), (a3, .inl (cB, 1300, .inl g_tp_bytes)), (a6, .inl (cJ, 6, .inr (.inl g_M_name))), (a2, .inr (7, [.int v_M_0, .int v_M_1, .int v_M_2, .ref a4, .ref a5, .int v_M_5, .ref a6, .ref a7, .ref a8, .ref a9, .ref a10, .ref a11, .ref a12, .ref a13, .ref a14])), (a12, .inl (cI, 6, .inl g_M_masterHigh)), (a0, .inr (2, [.ref a1, .ref a2, .int v_rd_2, .int v_rd_3, .int v_rd_4, .int v_rd_5, .int h72, .int h73])), (a1, .inr (5, [.ref a3, .int v_tp_1, .int h2, .int h3, .int h4, .long y5, .int h6]))] H := hP
      have hD : va_D A [(a11, .inl (cI, 6, .inl g_M_masterLow)), (a3, .inl (cB, 1300, .inl g_tp_bytes)), (a6, .inl (cJ, 6, .inr (.inl g_M_name))), (a2, .inr (7, [.int v_M_0, .int v_M_1, .int v_M_2, .ref a4, .ref a5, .int v_M_5, .ref a6, .ref a7, .ref a8, .ref a9, .ref a10, .ref a11, .ref a12, .ref a13, .ref a14])), (a12, .inl (cI, 6, .inl g_M_masterHigh)), (a0, .inr (2, [.ref a1, .ref a2, .int v_rd_2, .int v_rd_3, .int v_rd_4, .int v_rd_5, .int h72, .int h73])), (a1, .inr (5, [.ref a3, .int v_tp_1, .int h2, .int h3, .int h4, .long y5, .int h6]))] := hD
      have hq70 := hp
      have l_l74 : (0 : Int32).toInt = 0 := rfl
      rw [← hQm]
      exact k_zret hC hr hlk hK hP hD hS (v_rd_2, h72, h73, h2, h3, h4, y5, h6, g_M_masterHigh, g_M_masterLow) [5, 6, 1, 3, 2, 4, 0] rfl (by decide +kernel) rfl (show 0 ≤ (0 : Int32).toInt ∧ (0 : Int32).toInt ≤ 1 ∧ 0 ≤ h2.toInt ∧ h2.toInt ≤ 1300 from by omega) (Nat.le_of_ble_eq_true rfl) (Nat.le_of_ble_eq_true rfl) dX2_readMaster_34
  · have dc10 : r7.toInt < 0 := fa_nle c10
    refine lv_iconst (v := 0) hx hb dX2_readMaster_16 (by decide) ?_
    have l_l75 : (0 : Int32).toInt = 0 := rfl
    rw [← hQm]
    exact k_zret hC hr hlk hK hP hD hS (v_rd_2, h8, h9, h2, h3, h4, y5, h6, g_M_masterHigh, g_M_masterLow) [3, 4, 2, 5, 6, 0, 1] rfl (by decide +kernel) rfl (show 0 ≤ (0 : Int32).toInt ∧ (0 : Int32).toInt ≤ 1 ∧ 0 ≤ h2.toInt ∧ h2.toInt ≤ 1300 from by omega) (Nat.le_of_ble_eq_true rfl) (Nat.le_of_ble_eq_true rfl) dX2_readMaster_17
theorem dX2_takePile_0 : decode cX2_takePile 0 = .ok (.iconst 0, 1) := by decide +kernel
theorem dX2_takePile_1 : decode cX2_takePile 1 = .ok (.istore_n 2, 1) := by decide +kernel
theorem dX2_takePile_2 : decode cX2_takePile 2 = .ok (.iconst 0, 1) := by decide +kernel
theorem dX2_takePile_3 : decode cX2_takePile 3 = .ok (.istore_n 3, 1) := by decide +kernel
theorem dX2_takePile_4 : decode cX2_takePile 4 = .ok (.iload_n 3, 1) := by decide +kernel
theorem dX2_takePile_5 : decode cX2_takePile 5 = .ok (.bipush 6, 2) := by decide +kernel
theorem dX2_takePile_7 : decode cX2_takePile 7 = .ok (.if_icmp .gt 69, 3) := by decide +kernel
theorem dX2_takePile_76 : decode cX2_takePile 76 = .ok (.iload_n 2, 1) := by decide +kernel
theorem dX2_takePile_77 : decode cX2_takePile 77 = .ok (.ireturn, 1) := by decide +kernel
theorem dX2_takePile_10 : decode cX2_takePile 10 = .ok (.iload_n 3, 1) := by decide +kernel
theorem dX2_takePile_11 : decode cX2_takePile 11 = .ok (.ifCond .eq 13, 3) := by decide +kernel
theorem dX2_takePile_24 : decode cX2_takePile 24 = .ok (.aload_n 0, 1) := by decide +kernel
theorem dX2_takePile_25 : decode cX2_takePile 25 = .ok (.invokevirtual 193, 3) := by decide +kernel
theorem dX2_takePile_28 : decode cX2_takePile 28 = .ok (.istore 4, 2) := by decide +kernel
theorem dX2_takePile_30 : decode cX2_takePile 30 = .ok (.iload 4, 2) := by decide +kernel
theorem dX2_takePile_32 : decode cX2_takePile 32 = .ok (.ifCond .ge 5, 3) := by decide +kernel
theorem dX2_takePile_37 : decode cX2_takePile 37 = .ok (.iload_n 1, 1) := by decide +kernel
theorem dX2_takePile_38 : decode cX2_takePile 38 = .ok (.iload_n 2, 1) := by decide +kernel
theorem dX2_takePile_39 : decode cX2_takePile 39 = .ok (.ior, 1) := by decide +kernel
theorem dX2_takePile_40 : decode cX2_takePile 40 = .ok (.iload 4, 2) := by decide +kernel
theorem dX2_takePile_42 : decode cX2_takePile 42 = .ok (.ishr, 1) := by decide +kernel
theorem dX2_takePile_43 : decode cX2_takePile 43 = .ok (.iconst 1, 1) := by decide +kernel
theorem dX2_takePile_44 : decode cX2_takePile 44 = .ok (.iand, 1) := by decide +kernel
theorem dX2_takePile_45 : decode cX2_takePile 45 = .ok (.ifCond .eq 11, 3) := by decide +kernel
theorem dX2_takePile_56 : decode cX2_takePile 56 = .ok (.iload_n 2, 1) := by decide +kernel
theorem dX2_takePile_57 : decode cX2_takePile 57 = .ok (.iconst 1, 1) := by decide +kernel
theorem dX2_takePile_58 : decode cX2_takePile 58 = .ok (.iload 4, 2) := by decide +kernel
theorem dX2_takePile_60 : decode cX2_takePile 60 = .ok (.ishl, 1) := by decide +kernel
theorem dX2_takePile_61 : decode cX2_takePile 61 = .ok (.ior, 1) := by decide +kernel
theorem dX2_takePile_62 : decode cX2_takePile 62 = .ok (.istore_n 2, 1) := by decide +kernel
theorem dX2_takePile_63 : decode cX2_takePile 63 = .ok (.aload_n 0, 1) := by decide +kernel
theorem dX2_takePile_64 : decode cX2_takePile 64 = .ok (.getfield 12, 3) := by decide +kernel
theorem dX2_takePile_67 : decode cX2_takePile 67 = .ok (.invokevirtual 104, 3) := by decide +kernel
theorem dX2_takePile_70 : decode cX2_takePile 70 = .ok (.iinc 3 1, 3) := by decide +kernel
theorem dX2_takePile_73 : decode cX2_takePile 73 = .ok (.goto (-69), 3) := by decide +kernel
theorem dX2_takePile_48 : decode cX2_takePile 48 = .ok (.aload_n 0, 1) := by decide +kernel
theorem dX2_takePile_49 : decode cX2_takePile 49 = .ok (.iconst 3, 1) := by decide +kernel
theorem dX2_takePile_50 : decode cX2_takePile 50 = .ok (.invokevirtual 100, 3) := by decide +kernel
theorem dX2_takePile_53 : decode cX2_takePile 53 = .ok (.pop, 1) := by decide +kernel
theorem dX2_takePile_54 : decode cX2_takePile 54 = .ok (.iconst (-1), 1) := by decide +kernel
theorem dX2_takePile_55 : decode cX2_takePile 55 = .ok (.ireturn, 1) := by decide +kernel
theorem dX2_takePile_35 : decode cX2_takePile 35 = .ok (.iconst (-1), 1) := by decide +kernel
theorem dX2_takePile_36 : decode cX2_takePile 36 = .ok (.ireturn, 1) := by decide +kernel
theorem dX2_takePile_14 : decode cX2_takePile 14 = .ok (.aload_n 0, 1) := by decide +kernel
theorem dX2_takePile_15 : decode cX2_takePile 15 = .ok (.getfield 12, 3) := by decide +kernel
theorem dX2_takePile_18 : decode cX2_takePile 18 = .ok (.invokevirtual 152, 3) := by decide +kernel
theorem dX2_takePile_21 : decode cX2_takePile 21 = .ok (.ifCond .eq 55, 3) := by decide +kernel
set_option maxHeartbeats 4000000 in
set_option maxRecDepth 100000 in
theorem c69_X2_takePile (l : Launch) (G : va_G) (cI cJ cB cZ : ClassId) (a0 a1 a2 a3 a4 a5 a6 a7 a8 a9 a10 a11 a12 a13 a14 : Nat) (b1 : Int32) (v_rd_2 : Int32) (v_rd_3 : Int32) (v_rd_4 : Int32) (v_rd_5 : Int32) (v_rd_6 : Int32) (v_rd_7 : Int32) (v_tp_1 : Int32) (v_tp_2 : Int32) (v_tp_3 : Int32) (v_tp_4 : Int32) (w_tp_5 : Int64) (v_tp_6 : Int32) (v_M_0 : Int32) (v_M_1 : Int32) (v_M_2 : Int32) (v_M_5 : Int32) (g_M_name : Nat → Int64) (g_tp_bytes : Nat → Int32) (hv_0 : 0 ≤ v_rd_3.toInt) (hv_1 : v_rd_3.toInt ≤ 1) (hv_2 : 0 ≤ v_rd_4.toInt) (hv_3 : v_rd_4.toInt ≤ 1) (hv_4 : 0 ≤ v_tp_1.toInt) (hv_5 : v_tp_1.toInt ≤ 1300) (hv_6 : 0 ≤ v_tp_2.toInt) (hv_7 : v_tp_2.toInt ≤ 1300) (hv_8 : 0 ≤ v_M_0.toInt) (hv_9 : v_M_0.toInt ≤ 110) (hv_10 : 0 ≤ v_M_1.toInt) (hv_11 : v_M_1.toInt ≤ 110) (hv_12 : 0 ≤ v_M_5.toInt) (hv_13 : v_M_5.toInt ≤ 6) (hT_g_tp_bytes : TA (-128) 127 g_tp_bytes) : Con l G (TY cI cJ cB cZ) yX2_takePile cX2_takePile 5 (some .int) ({ frames := 3, cells := 0, slots := 0, locals := 61 } : Room) [.ref a0, .int b1] [(a0, .inr (2, [.ref a1, .ref a2, .int v_rd_2, .int v_rd_3, .int v_rd_4, .int v_rd_5, .int v_rd_6, .int v_rd_7])), (a1, .inr (5, [.ref a3, .int v_tp_1, .int v_tp_2, .int v_tp_3, .int v_tp_4, .long w_tp_5, .int v_tp_6])), (a2, .inr (7, [.int v_M_0, .int v_M_1, .int v_M_2, .ref a4, .ref a5, .int v_M_5, .ref a6, .ref a7, .ref a8, .ref a9, .ref a10, .ref a11, .ref a12, .ref a13, .ref a14])), (a6, .inl (cJ, 6, .inr (.inl g_M_name))), (a3, .inl (cB, 1300, .inl g_tp_bytes))] (QI G (TY cI cJ cB cZ) (fun (r : Int32) (u : Int32 × Int32 × Int32 × Int32 × Int32 × Int64 × Int32) => ((-1) ≤ r.toInt ∧ r.toInt ≤ 63 ∧ 0 ≤ u.2.2.1.toInt ∧ u.2.2.1.toInt ≤ 1300)) (fun u : Int32 × Int32 × Int32 × Int32 × Int32 × Int64 × Int32 => [(a0, .inr (2, [.ref a1, .ref a2, .int v_rd_2, .int v_rd_3, .int v_rd_4, .int v_rd_5, .int u.1, .int u.2.1])), (a1, .inr (5, [.ref a3, .int v_tp_1, .int u.2.2.1, .int u.2.2.2.1, .int u.2.2.2.2.1, .long u.2.2.2.2.2.1, .int u.2.2.2.2.2.2])), (a2, .inr (7, [.int v_M_0, .int v_M_1, .int v_M_2, .ref a4, .ref a5, .int v_M_5, .ref a6, .ref a7, .ref a8, .ref a9, .ref a10, .ref a11, .ref a12, .ref a13, .ref a14])), (a6, .inl (cJ, 6, .inr (.inl g_M_name))), (a3, .inl (cB, 1300, .inl g_tp_bytes))])) := by
  refine k_met (by decide) (Nat.le_of_ble_eq_true rfl) ?_
  intro p e s m below meth c A ls hC hr hlk hnm hN hZ hK hA hP hD hS hl
  have hl : lv_has ls 5 [(0, .ref a0), (1, .int b1)] := hl
  generalize hQm : MQ below _ _ s _ _ A = Qm
  generalize (List.toArray _ : Array Value) = args at hC hQm ⊢
  obtain ⟨hx, hb, hml, hown, hts⟩ := id hC
  obtain ⟨H, hH⟩ : ∃ q, q = s.heap := ⟨_, rfl⟩
  obtain ⟨locs, hlo⟩ : ∃ q : List Loc, q = [] := ⟨_, rfl⟩
  have hP : va_P G cl [(a0, .inr (2, [.ref a1, .ref a2, .int v_rd_2, .int v_rd_3, .int v_rd_4, .int v_rd_5, .int v_rd_6, .int v_rd_7])), (a1, .inr (5, [.ref a3, .int v_tp_1, .int v_tp_2, .int v_tp_3, .int v_tp_4, .long w_tp_5, .int v_tp_6])), (a2, .inr (7, [.int v_M_0, .int v_M_1, .int v_M_2, .ref a4, .ref a5, .int v_M_5, .ref a6, .ref a7, .ref a8, .ref a9, .ref a10, .ref a11, .ref a12, .ref a13, .ref a14])), (a6, .inl (cJ, 6, .inr (.inl g_M_name))), (a3, .inl (cB, 1300, .inl g_tp_bytes))] H := by rw [hH]; exact hP
  have hS : va_S A s.heap H locs := by rw [hH, hlo]; exact hS
  rw [← hlo]
  rw [← hH]
  refine lv_iconst (v := 0) hx hb dX2_takePile_0 (by decide) ?_
  refine lv_istore_n (lv' := [(2, .int 0), (0, .ref a0), (1, .int b1)]) hx hb dX2_takePile_1 rfl hl (by decide) rfl (fun ls hl => ?_)
  refine lv_iconst (v := 0) hx hb dX2_takePile_2 (by decide) ?_
  refine lv_istore_n (lv' := [(3, .int 0), (2, .int 0), (0, .ref a0), (1, .int b1)]) hx hb dX2_takePile_3 rfl hl (by decide) rfl (fun ls hl => ?_)
  have L_4 : ∀ (n : Nat) (x1 : Int32) (x2 : Int32) (h3 : Int32) (h4 : Int32) (h5 : Int32) (y6 : Int64) (h7 : Int32) (h8 : Int32) (h9 : Int32) (H : Heap) (locs : List Loc) (ls : Array Slot), (0 ≤ x1.toInt ∧ x1.toInt ≤ 7 ∧ 0 ≤ x2.toInt ∧ x2.toInt ≤ 63 ∧ 0 ≤ h3.toInt ∧ h3.toInt ≤ 1300) → 7 - x1.toInt < (n : Int) → va_P G cl [(a0, .inr (2, [.ref a1, .ref a2, .int v_rd_2, .int v_rd_3, .int v_rd_4, .int v_rd_5, .int h8, .int h9])), (a1, .inr (5, [.ref a3, .int v_tp_1, .int h3, .int h4, .int h5, .long y6, .int h7])), (a2, .inr (7, [.int v_M_0, .int v_M_1, .int v_M_2, .ref a4, .ref a5, .int v_M_5, .ref a6, .ref a7, .ref a8, .ref a9, .ref a10, .ref a11, .ref a12, .ref a13, .ref a14])), (a6, .inl (cJ, 6, .inr (.inl g_M_name))), (a3, .inl (cB, 1300, .inl g_tp_bytes))] H → va_D A [(a0, .inr (2, [.ref a1, .ref a2, .int v_rd_2, .int v_rd_3, .int v_rd_4, .int v_rd_5, .int h8, .int h9])), (a1, .inr (5, [.ref a3, .int v_tp_1, .int h3, .int h4, .int h5, .long y6, .int h7])), (a2, .inr (7, [.int v_M_0, .int v_M_1, .int v_M_2, .ref a4, .ref a5, .int v_M_5, .ref a6, .ref a7, .ref a8, .ref a9, .ref a10, .ref a11, .ref a12, .ref a13, .ref a14])), (a6, .inl (cJ, 6, .inr (.inl g_M_name))), (a3, .inl (cB, 1300, .inl g_tp_bytes))] → va_S A s.heap H locs → lv_has ls 5 [(0, .ref a0), (1, .int b1), (2, .int x2), (3, .int x1)] → W p l e ({ frames := 3, cells := 0, slots := 0, locals := 61 } : Room) s m args below meth c H locs 0 0 Qm (F0 m 4 ls []) := by
    intro n
    induction n with
    | zero => intro x1 x2 h3 h4 h5 y6 h7 h8 h9 H locs ls hv hm; omega
    | succ n ih =>
      intro x1 x2 h3 h4 h5 y6 h7 h8 h9 H locs ls hv hm hP hD hS hl
      refine lv_iload_n hx hb dX2_takePile_4 rfl (lv_at hl 3 rfl) ?_
      refine lv_bipush (v := 6) hx hb dX2_takePile_5 (by decide) ?_
      refine lv_icmp_gt (tgt := 76) hx hb dX2_takePile_7 (by decide) (fun c10 => ?_) (fun c10 => ?_)
      · have dc10 : 6 < x1.toInt := (fa_lt _ _).mp c10
        refine lv_iload_n hx hb dX2_takePile_76 rfl (lv_at hl 2 rfl) ?_
        rw [← hQm]
        exact k_iret hC hr hlk hK hP hD hS (h8, h9, h3, h4, h5, y6, h7) [0, 1, 2, 3, 4] rfl (by decide +kernel) (show (-1) ≤ x2.toInt ∧ x2.toInt ≤ 63 ∧ 0 ≤ h3.toInt ∧ h3.toInt ≤ 1300 from by omega) (Nat.le_of_ble_eq_true rfl) (Nat.le_of_ble_eq_true rfl) dX2_takePile_77
      · have dc10 : x1.toInt ≤ 6 := fa_nlt c10
        refine lv_iload_n hx hb dX2_takePile_10 rfl (lv_at hl 3 rfl) ?_
        refine lv_if_eq (tgt := 24) hx hb dX2_takePile_11 (by decide) (fun c11 => ?_) (fun c11 => ?_)
        · have dc11 : x1.toInt = 0 := (fa_eq _ _).mp c11
          refine lv_aload_n hx hb dX2_takePile_24 rfl (lv_at hl 0 rfl) ?_
          refine k_ci (wr := [(a3, .inl (cB, 1300, .inl g_tp_bytes))]) (k_rV hC hN hZ hS hA hK hP hD (c65_X2_stoneHere l G cI cJ cB cZ a0 a1 a2 a3 a4 a5 a6 a7 a8 a9 a10 a11 a12 a13 a14 v_rd_2 v_rd_3 v_rd_4 v_rd_5 h8 h9 v_tp_1 h3 h4 h5 y6 h7 v_M_0 v_M_1 v_M_2 v_M_5 g_M_name hv_0 hv_1 hv_2 hv_3 hv_4 hv_5 (by omega) (by omega) hv_8 hv_9 hv_10 hv_11 hv_12 hv_13) [0, 1, 2, 3] rfl (by decide +kernel) mi_X2_stoneHere in_X2_stoneHere se_X2_stoneHere wm_X2_193 2 0 rfl rfl rfl hl.1 rfl rfl (Nat.le_of_ble_eq_true rfl) ⟨(Nat.le_of_ble_eq_true rfl), (Nat.le_of_ble_eq_true rfl)⟩ dX2_takePile_25 ⟨(Nat.le_of_ble_eq_true rfl), (Nat.le_of_ble_eq_true rfl)⟩) hP hD hS hA [0, 1, 2, 3] [4] rfl rfl (by decide +kernel) (by decide +kernel) (fun r12 u12 H locs hp hP hD hS => ?_)
          obtain ⟨h13, h14⟩ := u12
          have hp : ((-1) ≤ r12.toInt ∧ r12.toInt ≤ 5) := hp
          have hP : va_P G cl [(a3, .inl (cB, 1300, .inl g_tp_bytes)), (a0, .inr (2, [.ref a1, .ref a2, .int v_rd_2, .int v_rd_3, .int v_rd_4, .int v_rd_5, .int h13, .int h14])), (a1, .inr (5, [.ref a3, .int v_tp_1, .int h3, .int h4, .int h5, .long y6, .int h7])), (a2, .inr (7, [.int v_M_0, .int v_M_1, .int v_M_2, .ref a4, .ref a5, .int v_M_5, .ref a6, .ref a7, .ref a8, .ref a9, .ref a10, .ref a11, .ref a12, .ref a13, .ref a14])), (a6, .inl (cJ, 6, .inr (.inl g_M_name)))] H := hP
          have hD : va_D A [(a3, .inl (cB, 1300, .inl g_tp_bytes)), (a0, .inr (2, [.ref a1, .ref a2, .int v_rd_2, .int v_rd_3, .int v_rd_4, .int v_rd_5, .int h13, .int h14])), (a1, .inr (5, [.ref a3, .int v_tp_1, .int h3, .int h4, .int h5, .long y6, .int h7])), (a2, .inr (7, [.int v_M_0, .int v_M_1, .int v_M_2, .ref a4, .ref a5, .int v_M_5, .ref a6, .ref a7, .ref a8, .ref a9, .ref a10, .ref a11, .ref a12, .ref a13, .ref a14])), (a6, .inl (cJ, 6, .inr (.inl g_M_name)))] := hD
          have hq12 := hp
          refine lv_istore (lv' := [(4, .int r12), (0, .ref a0), (1, .int b1), (2, .int x2), (3, .int x1)]) hx hb dX2_takePile_28 hl (by decide) rfl (fun ls hl => ?_)
          refine lv_iload hx hb dX2_takePile_30 (lv_at hl 0 rfl) ?_
          refine lv_if_ge (tgt := 37) hx hb dX2_takePile_32 (by decide) (fun c15 => ?_) (fun c15 => ?_)
          · have dc15 : 0 ≤ r12.toInt := (fa_le _ _).mp c15
            refine lv_iload_n hx hb dX2_takePile_37 rfl (lv_at hl 2 rfl) ?_
            refine lv_iload_n hx hb dX2_takePile_38 rfl (lv_at hl 3 rfl) ?_
            refine lv_ior hx hb dX2_takePile_39 ?_
            refine lv_topi (fun z16 _ => ?_)
            refine lv_iload hx hb dX2_takePile_40 (lv_at hl 0 rfl) ?_
            refine lv_ishr hx hb dX2_takePile_42 ?_
            refine lv_topi (fun z17 _ => ?_)
            refine lv_iconst (v := 1) hx hb dX2_takePile_43 (by decide) ?_
            refine lv_iand hx hb dX2_takePile_44 ?_
            refine t_i (fun q => 0 ≤ q.toInt ∧ q.toInt ≤ 1) (by have h_ := and_b (x := z17) (y := 1) (by decide); exact h_) (fun z18 tz18 => ?_)
            refine lv_if_eq (tgt := 56) hx hb dX2_takePile_45 (by decide) (fun c19 => ?_) (fun c19 => ?_)
            · have dc19 : z18.toInt = 0 := (fa_eq _ _).mp c19
              refine lv_iload_n hx hb dX2_takePile_56 rfl (lv_at hl 3 rfl) ?_
              refine lv_iconst (v := 1) hx hb dX2_takePile_57 (by decide) ?_
              refine lv_iload hx hb dX2_takePile_58 (lv_at hl 0 rfl) ?_
              refine lv_ishl hx hb dX2_takePile_60 ?_
              refine t_i (fun q => 1 ≤ q.toInt ∧ q.toInt ≤ 32) (shl1_b (k := 5) (by decide) (by omega) (by omega)) (fun z20 tz20 => ?_)
              refine lv_ior hx hb dX2_takePile_61 ?_
              refine t_i (fun q => 0 ≤ q.toInt ∧ q.toInt < 64) (or_b (k := 6) (by decide) (by omega) (by omega) (by omega) (by omega)) (fun z21 tz21 => ?_)
              refine lv_istore_n (lv' := [(2, .int z21), (4, .int r12), (0, .ref a0), (1, .int b1), (3, .int x1)]) hx hb dX2_takePile_62 rfl hl (by decide) rfl (fun ls hl => ?_)
              refine lv_aload_n hx hb dX2_takePile_63 rfl (lv_at hl 2 rfl) ?_
              refine k_get hC hK hP iX2 1 0 wf_X2_12 rfl (by decide) rfl rfl dX2_takePile_64 ?_
              refine k_cv (wr := [(a0, .inr (2, [.ref a1, .ref a2, .int v_rd_2, .int v_rd_3, .int v_rd_4, .int v_rd_5, .int h13, .int h14])), (a2, .inr (7, [.int v_M_0, .int v_M_1, .int v_M_2, .ref a4, .ref a5, .int v_M_5, .ref a6, .ref a7, .ref a8, .ref a9, .ref a10, .ref a11, .ref a12, .ref a13, .ref a14])), (a6, .inl (cJ, 6, .inr (.inl g_M_name)))]) (k_rV hC hN hZ hS hA hK hP hD (c20_X5_advance l G cI cJ cB cZ a1 a3 v_tp_1 h3 h4 h5 y6 h7 g_tp_bytes hv_4 hv_5 (by omega) (by omega) hT_g_tp_bytes) [2, 0] rfl (by decide +kernel) mi_X5_advance in_X5_advance se_X5_advance wm_X2_104 5 2 rfl rfl rfl hl.1 rfl rfl (Nat.le_of_ble_eq_true rfl) ⟨(Nat.le_of_ble_eq_true rfl), (Nat.le_of_ble_eq_true rfl)⟩ dX2_takePile_67 ⟨(Nat.le_of_ble_eq_true rfl), (Nat.le_of_ble_eq_true rfl)⟩) hP hD hS hA [2, 0] [1, 3, 4] rfl rfl (by decide +kernel) (by decide +kernel) (fun u22 H locs hp hP hD hS => ?_)
              obtain ⟨h23, h24, h25, y26, h27⟩ := u22
              have hp : (0 ≤ h23.toInt ∧ h23.toInt ≤ 1300 ∧ 0 ≤ h24.toInt ∧ h24.toInt ≤ 1300 ∧ 0 ≤ h25.toInt ∧ h25.toInt ≤ 4) := hp
              have hP : va_P G cl [(a0, .inr (2, [.ref a1, .ref a2, .int v_rd_2, .int v_rd_3, .int v_rd_4, .int v_rd_5, .int h13, .int h14])), (a2, .inr (7, [.int v_M_0, .int v_M_1, .int v_M_2, .ref a4, .ref a5, .int v_M_5, .ref a6, .ref a7, .ref a8, .ref a9, .ref a10, .ref a11, .ref a12, .ref a13, .ref a14])), (a6, .inl (cJ, 6, .inr (.inl g_M_name))), (a1, .inr (5, [.ref a3, .int v_tp_1, .int h23, .int h24, .int h25, .long y26, .int h27])), (a3, .inl (cB, 1300, .inl g_tp_bytes))] H := hP
              have hD : va_D A [(a0, .inr (2, [.ref a1, .ref a2, .int v_rd_2, .int v_rd_3, .int v_rd_4, .int v_rd_5, .int h13, .int h14])), (a2, .inr (7, [.int v_M_0, .int v_M_1, .int v_M_2, .ref a4, .ref a5, .int v_M_5, .ref a6, .ref a7, .ref a8, .ref a9, .ref a10, .ref a11, .ref a12, .ref a13, .ref a14])), (a6, .inl (cJ, 6, .inr (.inl g_M_name))), (a1, .inr (5, [.ref a3, .int v_tp_1, .int h23, .int h24, .int h25, .long y26, .int h27])), (a3, .inl (cB, 1300, .inl g_tp_bytes))] := hD
              have hq22 := hp
              obtain ⟨z28, ez28⟩ : ∃ q : Int32, q = x1 + Int32.ofInt 1 := ⟨_, rfl⟩
              have tz28 : z28.toInt = x1.toInt + 1 := by rw [ez28]; exact add_i (y := 1) (by have p_ := i_lo x1; show _ ≤ _ + (1 : Int); omega) (by have q_ := i_hi x1; show _ + (1 : Int) ≤ _; omega)
              refine lv_iinc (v := z28) (lv' := [(3, .int z28), (2, .int z21), (4, .int r12), (0, .ref a0), (1, .int b1)]) hx hb dX2_takePile_70 hl (k := 4) rfl ez28.symm (by decide) rfl (fun ls hl => ?_)
              refine lv_goto (tgt := 4) hx hb dX2_takePile_73 (by decide) ?_
              exact ih  z28 z21 h23 h24 h25 y26 h27 h13 h14 H locs ls (by omega) (by omega) (hP.subm [0, 3, 1, 2, 4] rfl) (hD.sub [0, 3, 1, 2, 4] (by decide +kernel) rfl) hS (lv_sub hl [3, 4, 1, 0] rfl)
            · have dc19 : z18.toInt ≠ 0 := fa_ne c19
              refine lv_aload_n hx hb dX2_takePile_48 rfl (lv_at hl 1 rfl) ?_
              refine lv_iconst (v := 3) hx hb dX2_takePile_49 (by decide) ?_
              have l_l30 : (3 : Int32).toInt = 3 := rfl
              refine k_ci (wr := [(a3, .inl (cB, 1300, .inl g_tp_bytes)), (a2, .inr (7, [.int v_M_0, .int v_M_1, .int v_M_2, .ref a4, .ref a5, .int v_M_5, .ref a6, .ref a7, .ref a8, .ref a9, .ref a10, .ref a11, .ref a12, .ref a13, .ref a14])), (a6, .inl (cJ, 6, .inr (.inl g_M_name)))]) (k_rV hC hN hZ hS hA hK hP hD (c47_X2_refuse l G cI cJ cB cZ a0 a1 a2 a3 3 v_rd_2 v_rd_3 v_rd_4 v_rd_5 h13 h14 v_tp_1 h3 h4 h5 y6 h7 hv_0 hv_1 hv_2 hv_3 hv_4 hv_5 (by omega) (by omega)) [1, 2] rfl (by decide +kernel) mi_X2_refuse in_X2_refuse se_X2_refuse wm_X2_100 2 1 rfl rfl rfl hl.1 rfl rfl (Nat.le_of_ble_eq_true rfl) ⟨(Nat.le_of_ble_eq_true rfl), (Nat.le_of_ble_eq_true rfl)⟩ dX2_takePile_50 ⟨(Nat.le_of_ble_eq_true rfl), (Nat.le_of_ble_eq_true rfl)⟩) hP hD hS hA [1, 2] [0, 3, 4] rfl rfl (by decide +kernel) (by decide +kernel) (fun r29 u29 H locs hp hP hD hS => ?_)
              obtain ⟨h31, h32⟩ := u29
              have hp : (r29 = 0 ∧ True) := hp
              obtain rfl : r29 = 0 := hp.1
              have hP : va_P G cl [(a3, .inl (cB, 1300, .inl g_tp_bytes)), (a2, .inr (7, [.int v_M_0, .int v_M_1, .int v_M_2, .ref a4, .ref a5, .int v_M_5, .ref a6, .ref a7, .ref a8, .ref a9, .ref a10, .ref a11, .ref a12, .ref a13, .ref a14])), (a6, .inl (cJ, 6, .inr (.inl g_M_name))), (a0, .inr (2, [.ref a1, .ref a2, .int v_rd_2, .int v_rd_3, .int v_rd_4, .int v_rd_5, .int h31, .int h32])), (a1, .inr (5, [.ref a3, .int v_tp_1, .int h3, .int h4, .int h5, .long y6, .int h7]))] H := hP
              have hD : va_D A [(a3, .inl (cB, 1300, .inl g_tp_bytes)), (a2, .inr (7, [.int v_M_0, .int v_M_1, .int v_M_2, .ref a4, .ref a5, .int v_M_5, .ref a6, .ref a7, .ref a8, .ref a9, .ref a10, .ref a11, .ref a12, .ref a13, .ref a14])), (a6, .inl (cJ, 6, .inr (.inl g_M_name))), (a0, .inr (2, [.ref a1, .ref a2, .int v_rd_2, .int v_rd_3, .int v_rd_4, .int v_rd_5, .int h31, .int h32])), (a1, .inr (5, [.ref a3, .int v_tp_1, .int h3, .int h4, .int h5, .long y6, .int h7]))] := hD
              have hq29 := hp
              refine lv_pop hx hb dX2_takePile_53 rfl ?_
              refine lv_iconst (v := (-1)) hx hb dX2_takePile_54 (by decide) ?_
              have l_l33 : ((-1) : Int32).toInt = (-1) := rfl
              rw [← hQm]
              exact k_iret hC hr hlk hK hP hD hS (h31, h32, h3, h4, h5, y6, h7) [3, 4, 1, 2, 0] rfl (by decide +kernel) (show (-1) ≤ ((-1) : Int32).toInt ∧ ((-1) : Int32).toInt ≤ 63 ∧ 0 ≤ h3.toInt ∧ h3.toInt ≤ 1300 from by omega) (Nat.le_of_ble_eq_true rfl) (Nat.le_of_ble_eq_true rfl) dX2_takePile_55
          · have dc15 : r12.toInt < 0 := fa_nle c15
            refine lv_iconst (v := (-1)) hx hb dX2_takePile_35 (by decide) ?_
            have l_l34 : ((-1) : Int32).toInt = (-1) := rfl
            rw [← hQm]
            exact k_iret hC hr hlk hK hP hD hS (h13, h14, h3, h4, h5, y6, h7) [1, 2, 3, 4, 0] rfl (by decide +kernel) (show (-1) ≤ ((-1) : Int32).toInt ∧ ((-1) : Int32).toInt ≤ 63 ∧ 0 ≤ h3.toInt ∧ h3.toInt ≤ 1300 from by omega) (Nat.le_of_ble_eq_true rfl) (Nat.le_of_ble_eq_true rfl) dX2_takePile_36
        · have dc11 : x1.toInt ≠ 0 := fa_ne c11
          refine lv_aload_n hx hb dX2_takePile_14 rfl (lv_at hl 0 rfl) ?_
          refine k_get hC hK hP iX2 0 0 wf_X2_12 rfl (by decide) rfl rfl dX2_takePile_15 ?_
          refine k_ci (wr := [(a0, .inr (2, [.ref a1, .ref a2, .int v_rd_2, .int v_rd_3, .int v_rd_4, .int v_rd_5, .int h8, .int h9])), (a2, .inr (7, [.int v_M_0, .int v_M_1, .int v_M_2, .ref a4, .ref a5, .int v_M_5, .ref a6, .ref a7, .ref a8, .ref a9, .ref a10, .ref a11, .ref a12, .ref a13, .ref a14])), (a6, .inl (cJ, 6, .inr (.inl g_M_name))), (a3, .inl (cB, 1300, .inl g_tp_bytes))]) (k_rV hC hN hZ hS hA hK hP hD (c60_X5_isName l G cI cJ cB cZ a1 a3 v_tp_1 h3 h4 h5 y6 h7 hv_4 hv_5 (by omega) (by omega)) [1] rfl (by decide +kernel) mi_X5_isName in_X5_isName se_X5_isName wm_X2_152 5 1 rfl rfl rfl hl.1 rfl rfl (Nat.le_of_ble_eq_true rfl) ⟨(Nat.le_of_ble_eq_true rfl), (Nat.le_of_ble_eq_true rfl)⟩ dX2_takePile_18 ⟨(Nat.le_of_ble_eq_true rfl), (Nat.le_of_ble_eq_true rfl)⟩) hP hD hS hA [1] [0, 2, 3, 4] rfl rfl (by decide +kernel) (by decide +kernel) (fun r35 u35 H locs hp hP hD hS => ?_)
          have hp : (0 ≤ r35.toInt ∧ r35.toInt ≤ 1) := hp
          have hP : va_P G cl [(a0, .inr (2, [.ref a1, .ref a2, .int v_rd_2, .int v_rd_3, .int v_rd_4, .int v_rd_5, .int h8, .int h9])), (a2, .inr (7, [.int v_M_0, .int v_M_1, .int v_M_2, .ref a4, .ref a5, .int v_M_5, .ref a6, .ref a7, .ref a8, .ref a9, .ref a10, .ref a11, .ref a12, .ref a13, .ref a14])), (a6, .inl (cJ, 6, .inr (.inl g_M_name))), (a3, .inl (cB, 1300, .inl g_tp_bytes)), (a1, .inr (5, [.ref a3, .int v_tp_1, .int h3, .int h4, .int h5, .long y6, .int h7]))] H := hP
          have hD : va_D A [(a0, .inr (2, [.ref a1, .ref a2, .int v_rd_2, .int v_rd_3, .int v_rd_4, .int v_rd_5, .int h8, .int h9])), (a2, .inr (7, [.int v_M_0, .int v_M_1, .int v_M_2, .ref a4, .ref a5, .int v_M_5, .ref a6, .ref a7, .ref a8, .ref a9, .ref a10, .ref a11, .ref a12, .ref a13, .ref a14])), (a6, .inl (cJ, 6, .inr (.inl g_M_name))), (a3, .inl (cB, 1300, .inl g_tp_bytes)), (a1, .inr (5, [.ref a3, .int v_tp_1, .int h3, .int h4, .int h5, .long y6, .int h7]))] := hD
          have hq35 := hp
          refine lv_if_eq (tgt := 76) hx hb dX2_takePile_21 (by decide) (fun c36 => ?_) (fun c36 => ?_)
          · have dc36 : r35.toInt = 0 := (fa_eq _ _).mp c36
            refine lv_iload_n hx hb dX2_takePile_76 rfl (lv_at hl 2 rfl) ?_
            rw [← hQm]
            exact k_iret hC hr hlk hK hP hD hS (h8, h9, h3, h4, h5, y6, h7) [0, 4, 1, 2, 3] rfl (by decide +kernel) (show (-1) ≤ x2.toInt ∧ x2.toInt ≤ 63 ∧ 0 ≤ h3.toInt ∧ h3.toInt ≤ 1300 from by omega) (Nat.le_of_ble_eq_true rfl) (Nat.le_of_ble_eq_true rfl) dX2_takePile_77
          · have dc36 : r35.toInt ≠ 0 := fa_ne c36
            refine lv_aload_n hx hb dX2_takePile_24 rfl (lv_at hl 0 rfl) ?_
            refine k_ci (wr := [(a3, .inl (cB, 1300, .inl g_tp_bytes))]) (k_rV hC hN hZ hS hA hK hP hD (c65_X2_stoneHere l G cI cJ cB cZ a0 a1 a2 a3 a4 a5 a6 a7 a8 a9 a10 a11 a12 a13 a14 v_rd_2 v_rd_3 v_rd_4 v_rd_5 h8 h9 v_tp_1 h3 h4 h5 y6 h7 v_M_0 v_M_1 v_M_2 v_M_5 g_M_name hv_0 hv_1 hv_2 hv_3 hv_4 hv_5 (by omega) (by omega) hv_8 hv_9 hv_10 hv_11 hv_12 hv_13) [0, 4, 1, 2] rfl (by decide +kernel) mi_X2_stoneHere in_X2_stoneHere se_X2_stoneHere wm_X2_193 2 0 rfl rfl rfl hl.1 rfl rfl (Nat.le_of_ble_eq_true rfl) ⟨(Nat.le_of_ble_eq_true rfl), (Nat.le_of_ble_eq_true rfl)⟩ dX2_takePile_25 ⟨(Nat.le_of_ble_eq_true rfl), (Nat.le_of_ble_eq_true rfl)⟩) hP hD hS hA [0, 4, 1, 2] [3] rfl rfl (by decide +kernel) (by decide +kernel) (fun r37 u37 H locs hp hP hD hS => ?_)
            obtain ⟨h38, h39⟩ := u37
            have hp : ((-1) ≤ r37.toInt ∧ r37.toInt ≤ 5) := hp
            have hP : va_P G cl [(a3, .inl (cB, 1300, .inl g_tp_bytes)), (a0, .inr (2, [.ref a1, .ref a2, .int v_rd_2, .int v_rd_3, .int v_rd_4, .int v_rd_5, .int h38, .int h39])), (a1, .inr (5, [.ref a3, .int v_tp_1, .int h3, .int h4, .int h5, .long y6, .int h7])), (a2, .inr (7, [.int v_M_0, .int v_M_1, .int v_M_2, .ref a4, .ref a5, .int v_M_5, .ref a6, .ref a7, .ref a8, .ref a9, .ref a10, .ref a11, .ref a12, .ref a13, .ref a14])), (a6, .inl (cJ, 6, .inr (.inl g_M_name)))] H := hP
            have hD : va_D A [(a3, .inl (cB, 1300, .inl g_tp_bytes)), (a0, .inr (2, [.ref a1, .ref a2, .int v_rd_2, .int v_rd_3, .int v_rd_4, .int v_rd_5, .int h38, .int h39])), (a1, .inr (5, [.ref a3, .int v_tp_1, .int h3, .int h4, .int h5, .long y6, .int h7])), (a2, .inr (7, [.int v_M_0, .int v_M_1, .int v_M_2, .ref a4, .ref a5, .int v_M_5, .ref a6, .ref a7, .ref a8, .ref a9, .ref a10, .ref a11, .ref a12, .ref a13, .ref a14])), (a6, .inl (cJ, 6, .inr (.inl g_M_name)))] := hD
            have hq37 := hp
            refine lv_istore (lv' := [(4, .int r37), (0, .ref a0), (1, .int b1), (2, .int x2), (3, .int x1)]) hx hb dX2_takePile_28 hl (by decide) rfl (fun ls hl => ?_)
            refine lv_iload hx hb dX2_takePile_30 (lv_at hl 0 rfl) ?_
            refine lv_if_ge (tgt := 37) hx hb dX2_takePile_32 (by decide) (fun c40 => ?_) (fun c40 => ?_)
            · have dc40 : 0 ≤ r37.toInt := (fa_le _ _).mp c40
              refine lv_iload_n hx hb dX2_takePile_37 rfl (lv_at hl 2 rfl) ?_
              refine lv_iload_n hx hb dX2_takePile_38 rfl (lv_at hl 3 rfl) ?_
              refine lv_ior hx hb dX2_takePile_39 ?_
              refine lv_topi (fun z41 _ => ?_)
              refine lv_iload hx hb dX2_takePile_40 (lv_at hl 0 rfl) ?_
              refine lv_ishr hx hb dX2_takePile_42 ?_
              refine lv_topi (fun z42 _ => ?_)
              refine lv_iconst (v := 1) hx hb dX2_takePile_43 (by decide) ?_
              refine lv_iand hx hb dX2_takePile_44 ?_
              refine t_i (fun q => 0 ≤ q.toInt ∧ q.toInt ≤ 1) (by have h_ := and_b (x := z42) (y := 1) (by decide); exact h_) (fun z43 tz43 => ?_)
              refine lv_if_eq (tgt := 56) hx hb dX2_takePile_45 (by decide) (fun c44 => ?_) (fun c44 => ?_)
              · have dc44 : z43.toInt = 0 := (fa_eq _ _).mp c44
                refine lv_iload_n hx hb dX2_takePile_56 rfl (lv_at hl 3 rfl) ?_
                refine lv_iconst (v := 1) hx hb dX2_takePile_57 (by decide) ?_
                refine lv_iload hx hb dX2_takePile_58 (lv_at hl 0 rfl) ?_
                refine lv_ishl hx hb dX2_takePile_60 ?_
                refine t_i (fun q => 1 ≤ q.toInt ∧ q.toInt ≤ 32) (shl1_b (k := 5) (by decide) (by omega) (by omega)) (fun z45 tz45 => ?_)
                refine lv_ior hx hb dX2_takePile_61 ?_
                refine t_i (fun q => 0 ≤ q.toInt ∧ q.toInt < 64) (or_b (k := 6) (by decide) (by omega) (by omega) (by omega) (by omega)) (fun z46 tz46 => ?_)
                refine lv_istore_n (lv' := [(2, .int z46), (4, .int r37), (0, .ref a0), (1, .int b1), (3, .int x1)]) hx hb dX2_takePile_62 rfl hl (by decide) rfl (fun ls hl => ?_)
                refine lv_aload_n hx hb dX2_takePile_63 rfl (lv_at hl 2 rfl) ?_
                refine k_get hC hK hP iX2 1 0 wf_X2_12 rfl (by decide) rfl rfl dX2_takePile_64 ?_
                refine k_cv (wr := [(a0, .inr (2, [.ref a1, .ref a2, .int v_rd_2, .int v_rd_3, .int v_rd_4, .int v_rd_5, .int h38, .int h39])), (a2, .inr (7, [.int v_M_0, .int v_M_1, .int v_M_2, .ref a4, .ref a5, .int v_M_5, .ref a6, .ref a7, .ref a8, .ref a9, .ref a10, .ref a11, .ref a12, .ref a13, .ref a14])), (a6, .inl (cJ, 6, .inr (.inl g_M_name)))]) (k_rV hC hN hZ hS hA hK hP hD (c20_X5_advance l G cI cJ cB cZ a1 a3 v_tp_1 h3 h4 h5 y6 h7 g_tp_bytes hv_4 hv_5 (by omega) (by omega) hT_g_tp_bytes) [2, 0] rfl (by decide +kernel) mi_X5_advance in_X5_advance se_X5_advance wm_X2_104 5 2 rfl rfl rfl hl.1 rfl rfl (Nat.le_of_ble_eq_true rfl) ⟨(Nat.le_of_ble_eq_true rfl), (Nat.le_of_ble_eq_true rfl)⟩ dX2_takePile_67 ⟨(Nat.le_of_ble_eq_true rfl), (Nat.le_of_ble_eq_true rfl)⟩) hP hD hS hA [2, 0] [1, 3, 4] rfl rfl (by decide +kernel) (by decide +kernel) (fun u47 H locs hp hP hD hS => ?_)
                obtain ⟨h48, h49, h50, y51, h52⟩ := u47
                have hp : (0 ≤ h48.toInt ∧ h48.toInt ≤ 1300 ∧ 0 ≤ h49.toInt ∧ h49.toInt ≤ 1300 ∧ 0 ≤ h50.toInt ∧ h50.toInt ≤ 4) := hp
                have hP : va_P G cl [(a0, .inr (2, [.ref a1, .ref a2, .int v_rd_2, .int v_rd_3, .int v_rd_4, .int v_rd_5, .int h38, .int h39])), (a2, .inr (7, [.int v_M_0, .int v_M_1, .int v_M_2, .ref a4, .ref a5, .int v_M_5, .ref a6, .ref a7, .ref a8, .ref a9, .ref a10, .ref a11, .ref a12, .ref a13, .ref a14])), (a6, .inl (cJ, 6, .inr (.inl g_M_name))), (a1, .inr (5, [.ref a3, .int v_tp_1, .int h48, .int h49, .int h50, .long y51, .int h52])), (a3, .inl (cB, 1300, .inl g_tp_bytes))] H := hP
                have hD : va_D A [(a0, .inr (2, [.ref a1, .ref a2, .int v_rd_2, .int v_rd_3, .int v_rd_4, .int v_rd_5, .int h38, .int h39])), (a2, .inr (7, [.int v_M_0, .int v_M_1, .int v_M_2, .ref a4, .ref a5, .int v_M_5, .ref a6, .ref a7, .ref a8, .ref a9, .ref a10, .ref a11, .ref a12, .ref a13, .ref a14])), (a6, .inl (cJ, 6, .inr (.inl g_M_name))), (a1, .inr (5, [.ref a3, .int v_tp_1, .int h48, .int h49, .int h50, .long y51, .int h52])), (a3, .inl (cB, 1300, .inl g_tp_bytes))] := hD
                have hq47 := hp
                obtain ⟨z53, ez53⟩ : ∃ q : Int32, q = x1 + Int32.ofInt 1 := ⟨_, rfl⟩
                have tz53 : z53.toInt = x1.toInt + 1 := by rw [ez53]; exact add_i (y := 1) (by have p_ := i_lo x1; show _ ≤ _ + (1 : Int); omega) (by have q_ := i_hi x1; show _ + (1 : Int) ≤ _; omega)
                refine lv_iinc (v := z53) (lv' := [(3, .int z53), (2, .int z46), (4, .int r37), (0, .ref a0), (1, .int b1)]) hx hb dX2_takePile_70 hl (k := 4) rfl ez53.symm (by decide) rfl (fun ls hl => ?_)
                refine lv_goto (tgt := 4) hx hb dX2_takePile_73 (by decide) ?_
                exact ih  z53 z46 h48 h49 h50 y51 h52 h38 h39 H locs ls (by omega) (by omega) (hP.subm [0, 3, 1, 2, 4] rfl) (hD.sub [0, 3, 1, 2, 4] (by decide +kernel) rfl) hS (lv_sub hl [3, 4, 1, 0] rfl)
              · have dc44 : z43.toInt ≠ 0 := fa_ne c44
                refine lv_aload_n hx hb dX2_takePile_48 rfl (lv_at hl 1 rfl) ?_
                refine lv_iconst (v := 3) hx hb dX2_takePile_49 (by decide) ?_
                have l_l55 : (3 : Int32).toInt = 3 := rfl
                refine k_ci (wr := [(a3, .inl (cB, 1300, .inl g_tp_bytes)), (a2, .inr (7, [.int v_M_0, .int v_M_1, .int v_M_2, .ref a4, .ref a5, .int v_M_5, .ref a6, .ref a7, .ref a8, .ref a9, .ref a10, .ref a11, .ref a12, .ref a13, .ref a14])), (a6, .inl (cJ, 6, .inr (.inl g_M_name)))]) (k_rV hC hN hZ hS hA hK hP hD (c47_X2_refuse l G cI cJ cB cZ a0 a1 a2 a3 3 v_rd_2 v_rd_3 v_rd_4 v_rd_5 h38 h39 v_tp_1 h3 h4 h5 y6 h7 hv_0 hv_1 hv_2 hv_3 hv_4 hv_5 (by omega) (by omega)) [1, 2] rfl (by decide +kernel) mi_X2_refuse in_X2_refuse se_X2_refuse wm_X2_100 2 1 rfl rfl rfl hl.1 rfl rfl (Nat.le_of_ble_eq_true rfl) ⟨(Nat.le_of_ble_eq_true rfl), (Nat.le_of_ble_eq_true rfl)⟩ dX2_takePile_50 ⟨(Nat.le_of_ble_eq_true rfl), (Nat.le_of_ble_eq_true rfl)⟩) hP hD hS hA [1, 2] [0, 3, 4] rfl rfl (by decide +kernel) (by decide +kernel) (fun r54 u54 H locs hp hP hD hS => ?_)
                obtain ⟨h56, h57⟩ := u54
                have hp : (r54 = 0 ∧ True) := hp
                obtain rfl : r54 = 0 := hp.1
                have hP : va_P G cl [(a3, .inl (cB, 1300, .inl g_tp_bytes)), (a2, .inr (7, [.int v_M_0, .int v_M_1, .int v_M_2, .ref a4, .ref a5, .int v_M_5, .ref a6, .ref a7, .ref a8, .ref a9, .ref a10, .ref a11, .ref a12, .ref a13, .ref a14])), (a6, .inl (cJ, 6, .inr (.inl g_M_name))), (a0, .inr (2, [.ref a1, .ref a2, .int v_rd_2, .int v_rd_3, .int v_rd_4, .int v_rd_5, .int h56, .int h57])), (a1, .inr (5, [.ref a3, .int v_tp_1, .int h3, .int h4, .int h5, .long y6, .int h7]))] H := hP
                have hD : va_D A [(a3, .inl (cB, 1300, .inl g_tp_bytes)), (a2, .inr (7, [.int v_M_0, .int v_M_1, .int v_M_2, .ref a4, .ref a5, .int v_M_5, .ref a6, .ref a7, .ref a8, .ref a9, .ref a10, .ref a11, .ref a12, .ref a13, .ref a14])), (a6, .inl (cJ, 6, .inr (.inl g_M_name))), (a0, .inr (2, [.ref a1, .ref a2, .int v_rd_2, .int v_rd_3, .int v_rd_4, .int v_rd_5, .int h56, .int h57])), (a1, .inr (5, [.ref a3, .int v_tp_1, .int h3, .int h4, .int h5, .long y6, .int h7]))] := hD
                have hq54 := hp
                refine lv_pop hx hb dX2_takePile_53 rfl ?_
                refine lv_iconst (v := (-1)) hx hb dX2_takePile_54 (by decide) ?_
                have l_l58 : ((-1) : Int32).toInt = (-1) := rfl
                rw [← hQm]
                exact k_iret hC hr hlk hK hP hD hS (h56, h57, h3, h4, h5, y6, h7) [3, 4, 1, 2, 0] rfl (by decide +kernel) (show (-1) ≤ ((-1) : Int32).toInt ∧ ((-1) : Int32).toInt ≤ 63 ∧ 0 ≤ h3.toInt ∧ h3.toInt ≤ 1300 from by omega) (Nat.le_of_ble_eq_true rfl) (Nat.le_of_ble_eq_true rfl) dX2_takePile_55
            · have dc40 : r37.toInt < 0 := fa_nle c40
              refine lv_iconst (v := (-1)) hx hb dX2_takePile_35 (by decide) ?_
              have l_l59 : ((-1) : Int32).toInt = (-1) := rfl
              rw [← hQm]
              exact k_iret hC hr hlk hK hP hD hS (h38, h39, h3, h4, h5, y6, h7) [1, 2, 3, 4, 0] rfl (by decide +kernel) (show (-1) ≤ ((-1) : Int32).toInt ∧ ((-1) : Int32).toInt ≤ 63 ∧ 0 ≤ h3.toInt ∧ h3.toInt ≤ 1300 from by omega) (Nat.le_of_ble_eq_true rfl) (Nat.le_of_ble_eq_true rfl) dX2_takePile_36
  have l_l60 : (0 : Int32).toInt = 0 := rfl
  exact L_4 8 0 0 v_tp_2 v_tp_3 v_tp_4 w_tp_5 v_tp_6 v_rd_6 v_rd_7 H locs ls (by omega) (by omega) (hP.subm [0, 1, 2, 3, 4] rfl) (hD.sub [0, 1, 2, 3, 4] (by decide +kernel) rfl) hS (lv_sub hl [2, 3, 1, 0] rfl)
theorem dX2_verdictHere_0 : decode cX2_verdictHere 0 = .ok (.aload_n 0, 1) := by decide +kernel
theorem dX2_verdictHere_1 : decode cX2_verdictHere 1 = .ok (.getfield 12, 3) := by decide +kernel
theorem dX2_verdictHere_4 : decode cX2_verdictHere 4 = .ok (.ldc2_w 224, 3) := by decide +kernel
set_option maxRecDepth 100000 in
theorem kl_X2_224 : Cond.constantLong RX2 224 1818584692 ∈ gw := gm (List.mem_of_getElem? (i := 709) (by decide +kernel)) rfl
theorem dX2_verdictHere_7 : decode cX2_verdictHere 7 = .ok (.invokevirtual 63, 3) := by decide +kernel
theorem dX2_verdictHere_10 : decode cX2_verdictHere 10 = .ok (.ifCond .eq 5, 3) := by decide +kernel
theorem dX2_verdictHere_15 : decode cX2_verdictHere 15 = .ok (.aload_n 0, 1) := by decide +kernel
theorem dX2_verdictHere_16 : decode cX2_verdictHere 16 = .ok (.getfield 12, 3) := by decide +kernel
theorem dX2_verdictHere_19 : decode cX2_verdictHere 19 = .ok (.ldc2_w 226, 3) := by decide +kernel
set_option maxRecDepth 100000 in
theorem kl_X2_226 : Cond.constantLong RX2 226 491394656372 ∈ gw := gm (List.mem_of_getElem? (i := 710) (by decide +kernel)) rfl
theorem dX2_verdictHere_22 : decode cX2_verdictHere 22 = .ok (.invokevirtual 63, 3) := by decide +kernel
theorem dX2_verdictHere_25 : decode cX2_verdictHere 25 = .ok (.ifCond .eq 5, 3) := by decide +kernel
theorem dX2_verdictHere_30 : decode cX2_verdictHere 30 = .ok (.aload_n 0, 1) := by decide +kernel
theorem dX2_verdictHere_31 : decode cX2_verdictHere 31 = .ok (.getfield 12, 3) := by decide +kernel
theorem dX2_verdictHere_34 : decode cX2_verdictHere 34 = .ok (.ldc2_w 228, 3) := by decide +kernel
set_option maxRecDepth 100000 in
theorem kl_X2_228 : Cond.constantLong RX2 228 1702258030 ∈ gw := gm (List.mem_of_getElem? (i := 711) (by decide +kernel)) rfl
theorem dX2_verdictHere_37 : decode cX2_verdictHere 37 = .ok (.invokevirtual 63, 3) := by decide +kernel
theorem dX2_verdictHere_40 : decode cX2_verdictHere 40 = .ok (.ifCond .eq 7, 3) := by decide +kernel
theorem dX2_verdictHere_47 : decode cX2_verdictHere 47 = .ok (.iconst (-1), 1) := by decide +kernel
theorem dX2_verdictHere_48 : decode cX2_verdictHere 48 = .ok (.ireturn, 1) := by decide +kernel
theorem dX2_verdictHere_43 : decode cX2_verdictHere 43 = .ok (.iconst 2, 1) := by decide +kernel
theorem dX2_verdictHere_44 : decode cX2_verdictHere 44 = .ok (.goto 4, 3) := by decide +kernel
theorem dX2_verdictHere_28 : decode cX2_verdictHere 28 = .ok (.iconst 1, 1) := by decide +kernel
theorem dX2_verdictHere_29 : decode cX2_verdictHere 29 = .ok (.ireturn, 1) := by decide +kernel
theorem dX2_verdictHere_13 : decode cX2_verdictHere 13 = .ok (.iconst 0, 1) := by decide +kernel
theorem dX2_verdictHere_14 : decode cX2_verdictHere 14 = .ok (.ireturn, 1) := by decide +kernel
set_option maxHeartbeats 4000000 in
set_option maxRecDepth 100000 in
theorem c70_X2_verdictHere (l : Launch) (G : va_G) (cI cJ cB cZ : ClassId) (a0 a1 a2 a3 : Nat) (v_rd_2 : Int32) (v_rd_3 : Int32) (v_rd_4 : Int32) (v_rd_5 : Int32) (v_rd_6 : Int32) (v_rd_7 : Int32) (v_tp_1 : Int32) (v_tp_2 : Int32) (v_tp_3 : Int32) (v_tp_4 : Int32) (w_tp_5 : Int64) (v_tp_6 : Int32) (hv_0 : 0 ≤ v_rd_3.toInt) (hv_1 : v_rd_3.toInt ≤ 1) (hv_2 : 0 ≤ v_rd_4.toInt) (hv_3 : v_rd_4.toInt ≤ 1) (hv_4 : 0 ≤ v_tp_1.toInt) (hv_5 : v_tp_1.toInt ≤ 1300) (hv_6 : 0 ≤ v_tp_2.toInt) (hv_7 : v_tp_2.toInt ≤ 1300) : Con l G (TY cI cJ cB cZ) yX2_verdictHere cX2_verdictHere 1 (some .int) ({ frames := 1, cells := 0, slots := 0, locals := 22 } : Room) [.ref a0] [(a0, .inr (2, [.ref a1, .ref a2, .int v_rd_2, .int v_rd_3, .int v_rd_4, .int v_rd_5, .int v_rd_6, .int v_rd_7])), (a1, .inr (5, [.ref a3, .int v_tp_1, .int v_tp_2, .int v_tp_3, .int v_tp_4, .long w_tp_5, .int v_tp_6]))] (QI G (TY cI cJ cB cZ) (fun (r : Int32) (u : Unit) => ((-1) ≤ r.toInt ∧ r.toInt ≤ 2)) (fun u : Unit => [(a0, .inr (2, [.ref a1, .ref a2, .int v_rd_2, .int v_rd_3, .int v_rd_4, .int v_rd_5, .int v_rd_6, .int v_rd_7])), (a1, .inr (5, [.ref a3, .int v_tp_1, .int v_tp_2, .int v_tp_3, .int v_tp_4, .long w_tp_5, .int v_tp_6]))])) := by
  refine k_met (by decide) (Nat.le_of_ble_eq_true rfl) ?_
  intro p e s m below meth c A ls hC hr hlk hnm hN hZ hK hA hP hD hS hl
  have hl : lv_has ls 1 [(0, .ref a0)] := hl
  generalize hQm : MQ below _ _ s _ _ A = Qm
  generalize (List.toArray _ : Array Value) = args at hC hQm ⊢
  obtain ⟨hx, hb, hml, hown, hts⟩ := id hC
  obtain ⟨H, hH⟩ : ∃ q, q = s.heap := ⟨_, rfl⟩
  obtain ⟨locs, hlo⟩ : ∃ q : List Loc, q = [] := ⟨_, rfl⟩
  have hP : va_P G cl [(a0, .inr (2, [.ref a1, .ref a2, .int v_rd_2, .int v_rd_3, .int v_rd_4, .int v_rd_5, .int v_rd_6, .int v_rd_7])), (a1, .inr (5, [.ref a3, .int v_tp_1, .int v_tp_2, .int v_tp_3, .int v_tp_4, .long w_tp_5, .int v_tp_6]))] H := by rw [hH]; exact hP
  have hS : va_S A s.heap H locs := by rw [hH, hlo]; exact hS
  rw [← hlo]
  rw [← hH]
  refine lv_aload_n hx hb dX2_verdictHere_0 rfl (lv_at hl 0 rfl) ?_
  refine k_get hC hK hP iX2 0 0 wf_X2_12 rfl (by decide) rfl rfl dX2_verdictHere_1 ?_
  refine lv_ldc2 (v := 1818584692) hx hb hown (hts _ kl_X2_224) dX2_verdictHere_4 ?_
  refine k_ci (wr := [(a0, .inr (2, [.ref a1, .ref a2, .int v_rd_2, .int v_rd_3, .int v_rd_4, .int v_rd_5, .int v_rd_6, .int v_rd_7]))]) (k_rV hC hN hZ hS hA hK hP hD (c21_X5_isWord l G cI cJ cB cZ a1 a3 1818584692 v_tp_1 v_tp_2 v_tp_3 v_tp_4 w_tp_5 v_tp_6 hv_4 hv_5 hv_6 hv_7) [1] rfl (by decide +kernel) mi_X5_isWord in_X5_isWord se_X5_isWord wm_X2_63 5 1 rfl rfl rfl hl.1 rfl rfl (Nat.le_of_ble_eq_true rfl) ⟨(Nat.le_of_ble_eq_true rfl), (Nat.le_of_ble_eq_true rfl)⟩ dX2_verdictHere_7 ⟨(Nat.le_of_ble_eq_true rfl), (Nat.le_of_ble_eq_true rfl)⟩) hP hD hS hA [1] [0] rfl rfl (by decide +kernel) (by decide +kernel) (fun r1 u1 H locs hp hP hD hS => ?_)
  have hp : (0 ≤ r1.toInt ∧ r1.toInt ≤ 1) := hp
  have hP : va_P G cl [(a0, .inr (2, [.ref a1, .ref a2, .int v_rd_2, .int v_rd_3, .int v_rd_4, .int v_rd_5, .int v_rd_6, .int v_rd_7])), (a1, .inr (5, [.ref a3, .int v_tp_1, .int v_tp_2, .int v_tp_3, .int v_tp_4, .long w_tp_5, .int v_tp_6]))] H := hP
  have hD : va_D A [(a0, .inr (2, [.ref a1, .ref a2, .int v_rd_2, .int v_rd_3, .int v_rd_4, .int v_rd_5, .int v_rd_6, .int v_rd_7])), (a1, .inr (5, [.ref a3, .int v_tp_1, .int v_tp_2, .int v_tp_3, .int v_tp_4, .long w_tp_5, .int v_tp_6]))] := hD
  have hq1 := hp
  refine lv_if_eq (tgt := 15) hx hb dX2_verdictHere_10 (by decide) (fun c2 => ?_) (fun c2 => ?_)
  · have dc2 : r1.toInt = 0 := (fa_eq _ _).mp c2
    refine lv_aload_n hx hb dX2_verdictHere_15 rfl (lv_at hl 0 rfl) ?_
    refine k_get hC hK hP iX2 0 0 wf_X2_12 rfl (by decide) rfl rfl dX2_verdictHere_16 ?_
    refine lv_ldc2 (v := 491394656372) hx hb hown (hts _ kl_X2_226) dX2_verdictHere_19 ?_
    refine k_ci (wr := [(a0, .inr (2, [.ref a1, .ref a2, .int v_rd_2, .int v_rd_3, .int v_rd_4, .int v_rd_5, .int v_rd_6, .int v_rd_7]))]) (k_rV hC hN hZ hS hA hK hP hD (c21_X5_isWord l G cI cJ cB cZ a1 a3 491394656372 v_tp_1 v_tp_2 v_tp_3 v_tp_4 w_tp_5 v_tp_6 hv_4 hv_5 hv_6 hv_7) [1] rfl (by decide +kernel) mi_X5_isWord in_X5_isWord se_X5_isWord wm_X2_63 5 1 rfl rfl rfl hl.1 rfl rfl (Nat.le_of_ble_eq_true rfl) ⟨(Nat.le_of_ble_eq_true rfl), (Nat.le_of_ble_eq_true rfl)⟩ dX2_verdictHere_22 ⟨(Nat.le_of_ble_eq_true rfl), (Nat.le_of_ble_eq_true rfl)⟩) hP hD hS hA [1] [0] rfl rfl (by decide +kernel) (by decide +kernel) (fun r3 u3 H locs hp hP hD hS => ?_)
    have hp : (0 ≤ r3.toInt ∧ r3.toInt ≤ 1) := hp
    have hP : va_P G cl [(a0, .inr (2, [.ref a1, .ref a2, .int v_rd_2, .int v_rd_3, .int v_rd_4, .int v_rd_5, .int v_rd_6, .int v_rd_7])), (a1, .inr (5, [.ref a3, .int v_tp_1, .int v_tp_2, .int v_tp_3, .int v_tp_4, .long w_tp_5, .int v_tp_6]))] H := hP
    have hD : va_D A [(a0, .inr (2, [.ref a1, .ref a2, .int v_rd_2, .int v_rd_3, .int v_rd_4, .int v_rd_5, .int v_rd_6, .int v_rd_7])), (a1, .inr (5, [.ref a3, .int v_tp_1, .int v_tp_2, .int v_tp_3, .int v_tp_4, .long w_tp_5, .int v_tp_6]))] := hD
    have hq3 := hp
    refine lv_if_eq (tgt := 30) hx hb dX2_verdictHere_25 (by decide) (fun c4 => ?_) (fun c4 => ?_)
    · have dc4 : r3.toInt = 0 := (fa_eq _ _).mp c4
      refine lv_aload_n hx hb dX2_verdictHere_30 rfl (lv_at hl 0 rfl) ?_
      refine k_get hC hK hP iX2 0 0 wf_X2_12 rfl (by decide) rfl rfl dX2_verdictHere_31 ?_
      refine lv_ldc2 (v := 1702258030) hx hb hown (hts _ kl_X2_228) dX2_verdictHere_34 ?_
      refine k_ci (wr := [(a0, .inr (2, [.ref a1, .ref a2, .int v_rd_2, .int v_rd_3, .int v_rd_4, .int v_rd_5, .int v_rd_6, .int v_rd_7]))]) (k_rV hC hN hZ hS hA hK hP hD (c21_X5_isWord l G cI cJ cB cZ a1 a3 1702258030 v_tp_1 v_tp_2 v_tp_3 v_tp_4 w_tp_5 v_tp_6 hv_4 hv_5 hv_6 hv_7) [1] rfl (by decide +kernel) mi_X5_isWord in_X5_isWord se_X5_isWord wm_X2_63 5 1 rfl rfl rfl hl.1 rfl rfl (Nat.le_of_ble_eq_true rfl) ⟨(Nat.le_of_ble_eq_true rfl), (Nat.le_of_ble_eq_true rfl)⟩ dX2_verdictHere_37 ⟨(Nat.le_of_ble_eq_true rfl), (Nat.le_of_ble_eq_true rfl)⟩) hP hD hS hA [1] [0] rfl rfl (by decide +kernel) (by decide +kernel) (fun r5 u5 H locs hp hP hD hS => ?_)
      have hp : (0 ≤ r5.toInt ∧ r5.toInt ≤ 1) := hp
      have hP : va_P G cl [(a0, .inr (2, [.ref a1, .ref a2, .int v_rd_2, .int v_rd_3, .int v_rd_4, .int v_rd_5, .int v_rd_6, .int v_rd_7])), (a1, .inr (5, [.ref a3, .int v_tp_1, .int v_tp_2, .int v_tp_3, .int v_tp_4, .long w_tp_5, .int v_tp_6]))] H := hP
      have hD : va_D A [(a0, .inr (2, [.ref a1, .ref a2, .int v_rd_2, .int v_rd_3, .int v_rd_4, .int v_rd_5, .int v_rd_6, .int v_rd_7])), (a1, .inr (5, [.ref a3, .int v_tp_1, .int v_tp_2, .int v_tp_3, .int v_tp_4, .long w_tp_5, .int v_tp_6]))] := hD
      have hq5 := hp
      refine lv_if_eq (tgt := 47) hx hb dX2_verdictHere_40 (by decide) (fun c6 => ?_) (fun c6 => ?_)
      · have dc6 : r5.toInt = 0 := (fa_eq _ _).mp c6
        refine lv_iconst (v := (-1)) hx hb dX2_verdictHere_47 (by decide) ?_
        have l_l7 : ((-1) : Int32).toInt = (-1) := rfl
        rw [← hQm]
        exact k_iret hC hr hlk hK hP hD hS () [0, 1] rfl (by decide +kernel) (show (-1) ≤ ((-1) : Int32).toInt ∧ ((-1) : Int32).toInt ≤ 2 from by omega) (Nat.le_of_ble_eq_true rfl) (Nat.le_of_ble_eq_true rfl) dX2_verdictHere_48
      · have dc6 : r5.toInt ≠ 0 := fa_ne c6
        refine lv_iconst (v := 2) hx hb dX2_verdictHere_43 (by decide) ?_
        refine lv_goto (tgt := 48) hx hb dX2_verdictHere_44 (by decide) ?_
        have l_l8 : (2 : Int32).toInt = 2 := rfl
        rw [← hQm]
        exact k_iret hC hr hlk hK hP hD hS () [0, 1] rfl (by decide +kernel) (show (-1) ≤ (2 : Int32).toInt ∧ (2 : Int32).toInt ≤ 2 from by omega) (Nat.le_of_ble_eq_true rfl) (Nat.le_of_ble_eq_true rfl) dX2_verdictHere_48
    · have dc4 : r3.toInt ≠ 0 := fa_ne c4
      refine lv_iconst (v := 1) hx hb dX2_verdictHere_28 (by decide) ?_
      have l_l9 : (1 : Int32).toInt = 1 := rfl
      rw [← hQm]
      exact k_iret hC hr hlk hK hP hD hS () [0, 1] rfl (by decide +kernel) (show (-1) ≤ (1 : Int32).toInt ∧ (1 : Int32).toInt ≤ 2 from by omega) (Nat.le_of_ble_eq_true rfl) (Nat.le_of_ble_eq_true rfl) dX2_verdictHere_29
  · have dc2 : r1.toInt ≠ 0 := fa_ne c2
    refine lv_iconst (v := 0) hx hb dX2_verdictHere_13 (by decide) ?_
    have l_l10 : (0 : Int32).toInt = 0 := rfl
    rw [← hQm]
    exact k_iret hC hr hlk hK hP hD hS () [0, 1] rfl (by decide +kernel) (show (-1) ≤ (0 : Int32).toInt ∧ (0 : Int32).toInt ≤ 2 from by omega) (Nat.le_of_ble_eq_true rfl) (Nat.le_of_ble_eq_true rfl) dX2_verdictHere_14
set_option maxHeartbeats 4000000 in
set_option maxRecDepth 100000 in
theorem c71_X8_put (l : Launch) (G : va_G) (cI cJ cB cZ : ClassId) (a0 a1 a2 a3 a4 a5 a6 a7 : Nat) (b1 : Int32) (b2 : Int32) (b3 : Int32) (b4 : Int32) (b5 : Int32) (v_Mw_7 : Int32) (g_Mw_left : Nat → Int32) (g_Mw_right : Nat → Int32) (g_Mw_year : Nat → Int32) (g_Mw_trader : Nat → Int32) (g_Mw_how : Nat → Int32) (g_Mw_told : Nat → Int32) (g_Mw_untold : Nat → Int32) (hv_0 : 0 ≤ v_Mw_7.toInt) (hv_1 : v_Mw_7.toInt ≤ 16) : Con l G (TY cI cJ cB cZ) yX8_put cX8_put 6 none ({ frames := 0, cells := 0, slots := 0, locals := 0 } : Room) [.ref a0, .int b1, .int b2, .int b3, .int b4, .int b5] [(a0, .inr (8, [.ref a1, .ref a2, .ref a3, .ref a4, .ref a5, .ref a6, .ref a7, .int v_Mw_7])), (a1, .inl (cI, 16, .inl g_Mw_left)), (a2, .inl (cI, 16, .inl g_Mw_right)), (a3, .inl (cI, 16, .inl g_Mw_year)), (a4, .inl (cI, 16, .inl g_Mw_trader)), (a5, .inl (cI, 16, .inl g_Mw_how)), (a6, .inl (cI, 16, .inl g_Mw_told)), (a7, .inl (cI, 16, .inl g_Mw_untold))] (QV G (TY cI cJ cB cZ) (fun u : Int32 × (Nat → Int32) × (Nat → Int32) × (Nat → Int32) × (Nat → Int32) × (Nat → Int32) × (Nat → Int32) × (Nat → Int32) => (1 ≤ u.1.toInt ∧ u.1.toInt ≤ 16)) (fun u : Int32 × (Nat → Int32) × (Nat → Int32) × (Nat → Int32) × (Nat → Int32) × (Nat → Int32) × (Nat → Int32) × (Nat → Int32) => [(a0, .inr (8, [.ref a1, .ref a2, .ref a3, .ref a4, .ref a5, .ref a6, .ref a7, .int u.1])), (a1, .inl (cI, 16, .inl u.2.1)), (a2, .inl (cI, 16, .inl u.2.2.1)), (a3, .inl (cI, 16, .inl u.2.2.2.1)), (a4, .inl (cI, 16, .inl u.2.2.2.2.1)), (a5, .inl (cI, 16, .inl u.2.2.2.2.2.1)), (a6, .inl (cI, 16, .inl u.2.2.2.2.2.2.1)), (a7, .inl (cI, 16, .inl u.2.2.2.2.2.2.2))])) := by
  refine k_met (by decide) (Nat.le_of_ble_eq_true rfl) ?_
  intro p e s m below meth c A ls hC hr hlk hnm hN hZ hK hA hP hD hS hl
  have hl : lv_has ls 6 [(0, .ref a0), (1, .int b1), (2, .int b2), (3, .int b3), (4, .int b4), (5, .int b5)] := hl
  generalize hQm : MQ below _ _ s _ _ A = Qm
  generalize (List.toArray _ : Array Value) = args at hC hQm ⊢
  obtain ⟨hx, hb, hml, hown, hts⟩ := id hC
  obtain ⟨H, hH⟩ : ∃ q, q = s.heap := ⟨_, rfl⟩
  obtain ⟨locs, hlo⟩ : ∃ q : List Loc, q = [] := ⟨_, rfl⟩
  have hP : va_P G cl [(a0, .inr (8, [.ref a1, .ref a2, .ref a3, .ref a4, .ref a5, .ref a6, .ref a7, .int v_Mw_7])), (a1, .inl (cI, 16, .inl g_Mw_left)), (a2, .inl (cI, 16, .inl g_Mw_right)), (a3, .inl (cI, 16, .inl g_Mw_year)), (a4, .inl (cI, 16, .inl g_Mw_trader)), (a5, .inl (cI, 16, .inl g_Mw_how)), (a6, .inl (cI, 16, .inl g_Mw_told)), (a7, .inl (cI, 16, .inl g_Mw_untold))] H := by rw [hH]; exact hP
  have hS : va_S A s.heap H locs := by rw [hH, hlo]; exact hS
  rw [← hlo]
  rw [← hH]
  refine lv_aload_n hx hb dX8_put_0 rfl (lv_at hl 0 rfl) ?_
  refine k_get hC hK hP iX8 0 7 wf_X8_9 rfl (by decide) rfl rfl dX8_put_1 ?_
  refine lv_aload_n hx hb dX8_put_4 rfl (lv_at hl 0 rfl) ?_
  refine k_get hC hK hP iX8 0 0 wf_X8_21 rfl (by decide) rfl rfl dX8_put_5 ?_
  refine k_alen hC hK hP 1 0 16 rfl rfl rfl dX8_put_8 ?_
  refine lv_icmp_lt (tgt := 13) hx hb dX8_put_9 (by decide) (fun c1 => ?_) (fun c1 => ?_)
  · have dc1 : v_Mw_7.toInt < 16 := (fa_lt _ _).mp c1
    refine lv_aload_n hx hb dX8_put_13 rfl (lv_at hl 0 rfl) ?_
    refine k_get hC hK hP iX8 0 0 wf_X8_21 rfl (by decide) rfl rfl dX8_put_14 ?_
    refine lv_aload_n hx hb dX8_put_17 rfl (lv_at hl 0 rfl) ?_
    refine k_get hC hK hP iX8 0 7 wf_X8_9 rfl (by decide) rfl rfl dX8_put_18 ?_
    refine lv_iload_n hx hb dX8_put_21 rfl (lv_at hl 1 rfl) ?_
    refine t_iast hC hK hP hD hS 1 rfl (by omega) (by omega) (TA.all _) ⟨i_lo _, i_hi _⟩ dX8_put_22 (fun f2 H locs hT_f2 hP hD hS => ?_)
    have hP : va_P G cl [(a0, .inr (8, [.ref a1, .ref a2, .ref a3, .ref a4, .ref a5, .ref a6, .ref a7, .int v_Mw_7])), (a1, .inl (cI, 16, .inl f2)), (a2, .inl (cI, 16, .inl g_Mw_right)), (a3, .inl (cI, 16, .inl g_Mw_year)), (a4, .inl (cI, 16, .inl g_Mw_trader)), (a5, .inl (cI, 16, .inl g_Mw_how)), (a6, .inl (cI, 16, .inl g_Mw_told)), (a7, .inl (cI, 16, .inl g_Mw_untold))] H := hP
    have hD : va_D A [(a0, .inr (8, [.ref a1, .ref a2, .ref a3, .ref a4, .ref a5, .ref a6, .ref a7, .int v_Mw_7])), (a1, .inl (cI, 16, .inl f2)), (a2, .inl (cI, 16, .inl g_Mw_right)), (a3, .inl (cI, 16, .inl g_Mw_year)), (a4, .inl (cI, 16, .inl g_Mw_trader)), (a5, .inl (cI, 16, .inl g_Mw_how)), (a6, .inl (cI, 16, .inl g_Mw_told)), (a7, .inl (cI, 16, .inl g_Mw_untold))] := hD
    refine lv_aload_n hx hb dX8_put_23 rfl (lv_at hl 0 rfl) ?_
    refine k_get hC hK hP iX8 0 1 wf_X8_25 rfl (by decide) rfl rfl dX8_put_24 ?_
    refine lv_aload_n hx hb dX8_put_27 rfl (lv_at hl 0 rfl) ?_
    refine k_get hC hK hP iX8 0 7 wf_X8_9 rfl (by decide) rfl rfl dX8_put_28 ?_
    refine lv_iload_n hx hb dX8_put_31 rfl (lv_at hl 2 rfl) ?_
    refine t_iast hC hK hP hD hS 2 rfl (by omega) (by omega) (TA.all _) ⟨i_lo _, i_hi _⟩ dX8_put_32 (fun f3 H locs hT_f3 hP hD hS => ?_)
    have hP : va_P G cl [(a0, .inr (8, [.ref a1, .ref a2, .ref a3, .ref a4, .ref a5, .ref a6, .ref a7, .int v_Mw_7])), (a1, .inl (cI, 16, .inl f2)), (a2, .inl (cI, 16, .inl f3)), (a3, .inl (cI, 16, .inl g_Mw_year)), (a4, .inl (cI, 16, .inl g_Mw_trader)), (a5, .inl (cI, 16, .inl g_Mw_how)), (a6, .inl (cI, 16, .inl g_Mw_told)), (a7, .inl (cI, 16, .inl g_Mw_untold))] H := hP
    have hD : va_D A [(a0, .inr (8, [.ref a1, .ref a2, .ref a3, .ref a4, .ref a5, .ref a6, .ref a7, .int v_Mw_7])), (a1, .inl (cI, 16, .inl f2)), (a2, .inl (cI, 16, .inl f3)), (a3, .inl (cI, 16, .inl g_Mw_year)), (a4, .inl (cI, 16, .inl g_Mw_trader)), (a5, .inl (cI, 16, .inl g_Mw_how)), (a6, .inl (cI, 16, .inl g_Mw_told)), (a7, .inl (cI, 16, .inl g_Mw_untold))] := hD
    refine lv_aload_n hx hb dX8_put_33 rfl (lv_at hl 0 rfl) ?_
    refine k_get hC hK hP iX8 0 2 wf_X8_28 rfl (by decide) rfl rfl dX8_put_34 ?_
    refine lv_aload_n hx hb dX8_put_37 rfl (lv_at hl 0 rfl) ?_
    refine k_get hC hK hP iX8 0 7 wf_X8_9 rfl (by decide) rfl rfl dX8_put_38 ?_
    refine lv_iload_n hx hb dX8_put_41 rfl (lv_at hl 3 rfl) ?_
    refine t_iast hC hK hP hD hS 3 rfl (by omega) (by omega) (TA.all _) ⟨i_lo _, i_hi _⟩ dX8_put_42 (fun f4 H locs hT_f4 hP hD hS => ?_)
    have hP : va_P G cl [(a0, .inr (8, [.ref a1, .ref a2, .ref a3, .ref a4, .ref a5, .ref a6, .ref a7, .int v_Mw_7])), (a1, .inl (cI, 16, .inl f2)), (a2, .inl (cI, 16, .inl f3)), (a3, .inl (cI, 16, .inl f4)), (a4, .inl (cI, 16, .inl g_Mw_trader)), (a5, .inl (cI, 16, .inl g_Mw_how)), (a6, .inl (cI, 16, .inl g_Mw_told)), (a7, .inl (cI, 16, .inl g_Mw_untold))] H := hP
    have hD : va_D A [(a0, .inr (8, [.ref a1, .ref a2, .ref a3, .ref a4, .ref a5, .ref a6, .ref a7, .int v_Mw_7])), (a1, .inl (cI, 16, .inl f2)), (a2, .inl (cI, 16, .inl f3)), (a3, .inl (cI, 16, .inl f4)), (a4, .inl (cI, 16, .inl g_Mw_trader)), (a5, .inl (cI, 16, .inl g_Mw_how)), (a6, .inl (cI, 16, .inl g_Mw_told)), (a7, .inl (cI, 16, .inl g_Mw_untold))] := hD
    refine lv_aload_n hx hb dX8_put_43 rfl (lv_at hl 0 rfl) ?_
    refine k_get hC hK hP iX8 0 3 wf_X8_31 rfl (by decide) rfl rfl dX8_put_44 ?_
    refine lv_aload_n hx hb dX8_put_47 rfl (lv_at hl 0 rfl) ?_
    refine k_get hC hK hP iX8 0 7 wf_X8_9 rfl (by decide) rfl rfl dX8_put_48 ?_
    refine lv_iload hx hb dX8_put_51 (lv_at hl 4 rfl) ?_
    refine t_iast hC hK hP hD hS 4 rfl (by omega) (by omega) (TA.all _) ⟨i_lo _, i_hi _⟩ dX8_put_53 (fun f5 H locs hT_f5 hP hD hS => ?_)
    have hP : va_P G cl [(a0, .inr (8, [.ref a1, .ref a2, .ref a3, .ref a4, .ref a5, .ref a6, .ref a7, .int v_Mw_7])), (a1, .inl (cI, 16, .inl f2)), (a2, .inl (cI, 16, .inl f3)), (a3, .inl (cI, 16, .inl f4)), (a4, .inl (cI, 16, .inl f5)), (a5, .inl (cI, 16, .inl g_Mw_how)), (a6, .inl (cI, 16, .inl g_Mw_told)), (a7, .inl (cI, 16, .inl g_Mw_untold))] H := hP
    have hD : va_D A [(a0, .inr (8, [.ref a1, .ref a2, .ref a3, .ref a4, .ref a5, .ref a6, .ref a7, .int v_Mw_7])), (a1, .inl (cI, 16, .inl f2)), (a2, .inl (cI, 16, .inl f3)), (a3, .inl (cI, 16, .inl f4)), (a4, .inl (cI, 16, .inl f5)), (a5, .inl (cI, 16, .inl g_Mw_how)), (a6, .inl (cI, 16, .inl g_Mw_told)), (a7, .inl (cI, 16, .inl g_Mw_untold))] := hD
    refine lv_aload_n hx hb dX8_put_54 rfl (lv_at hl 0 rfl) ?_
    refine k_get hC hK hP iX8 0 4 wf_X8_34 rfl (by decide) rfl rfl dX8_put_55 ?_
    refine lv_aload_n hx hb dX8_put_58 rfl (lv_at hl 0 rfl) ?_
    refine k_get hC hK hP iX8 0 7 wf_X8_9 rfl (by decide) rfl rfl dX8_put_59 ?_
    refine lv_iload hx hb dX8_put_62 (lv_at hl 5 rfl) ?_
    refine t_iast hC hK hP hD hS 5 rfl (by omega) (by omega) (TA.all _) ⟨i_lo _, i_hi _⟩ dX8_put_64 (fun f6 H locs hT_f6 hP hD hS => ?_)
    have hP : va_P G cl [(a0, .inr (8, [.ref a1, .ref a2, .ref a3, .ref a4, .ref a5, .ref a6, .ref a7, .int v_Mw_7])), (a1, .inl (cI, 16, .inl f2)), (a2, .inl (cI, 16, .inl f3)), (a3, .inl (cI, 16, .inl f4)), (a4, .inl (cI, 16, .inl f5)), (a5, .inl (cI, 16, .inl f6)), (a6, .inl (cI, 16, .inl g_Mw_told)), (a7, .inl (cI, 16, .inl g_Mw_untold))] H := hP
    have hD : va_D A [(a0, .inr (8, [.ref a1, .ref a2, .ref a3, .ref a4, .ref a5, .ref a6, .ref a7, .int v_Mw_7])), (a1, .inl (cI, 16, .inl f2)), (a2, .inl (cI, 16, .inl f3)), (a3, .inl (cI, 16, .inl f4)), (a4, .inl (cI, 16, .inl f5)), (a5, .inl (cI, 16, .inl f6)), (a6, .inl (cI, 16, .inl g_Mw_told)), (a7, .inl (cI, 16, .inl g_Mw_untold))] := hD
    refine lv_aload_n hx hb dX8_put_65 rfl (lv_at hl 0 rfl) ?_
    refine k_get hC hK hP iX8 0 5 wf_X8_37 rfl (by decide) rfl rfl dX8_put_66 ?_
    refine lv_aload_n hx hb dX8_put_69 rfl (lv_at hl 0 rfl) ?_
    refine k_get hC hK hP iX8 0 7 wf_X8_9 rfl (by decide) rfl rfl dX8_put_70 ?_
    refine lv_iconst (v := 0) hx hb dX8_put_73 (by decide) ?_
    refine t_iast hC hK hP hD hS 6 rfl (by omega) (by omega) (TA.all _) ⟨i_lo _, i_hi _⟩ dX8_put_74 (fun f7 H locs hT_f7 hP hD hS => ?_)
    have hP : va_P G cl [(a0, .inr (8, [.ref a1, .ref a2, .ref a3, .ref a4, .ref a5, .ref a6, .ref a7, .int v_Mw_7])), (a1, .inl (cI, 16, .inl f2)), (a2, .inl (cI, 16, .inl f3)), (a3, .inl (cI, 16, .inl f4)), (a4, .inl (cI, 16, .inl f5)), (a5, .inl (cI, 16, .inl f6)), (a6, .inl (cI, 16, .inl f7)), (a7, .inl (cI, 16, .inl g_Mw_untold))] H := hP
    have hD : va_D A [(a0, .inr (8, [.ref a1, .ref a2, .ref a3, .ref a4, .ref a5, .ref a6, .ref a7, .int v_Mw_7])), (a1, .inl (cI, 16, .inl f2)), (a2, .inl (cI, 16, .inl f3)), (a3, .inl (cI, 16, .inl f4)), (a4, .inl (cI, 16, .inl f5)), (a5, .inl (cI, 16, .inl f6)), (a6, .inl (cI, 16, .inl f7)), (a7, .inl (cI, 16, .inl g_Mw_untold))] := hD
    refine lv_aload_n hx hb dX8_put_75 rfl (lv_at hl 0 rfl) ?_
    refine k_get hC hK hP iX8 0 6 wf_X8_40 rfl (by decide) rfl rfl dX8_put_76 ?_
    refine lv_aload_n hx hb dX8_put_79 rfl (lv_at hl 0 rfl) ?_
    refine k_get hC hK hP iX8 0 7 wf_X8_9 rfl (by decide) rfl rfl dX8_put_80 ?_
    refine lv_iconst (v := (-1)) hx hb dX8_put_83 (by decide) ?_
    refine t_iast hC hK hP hD hS 7 rfl (by omega) (by omega) (TA.all _) ⟨i_lo _, i_hi _⟩ dX8_put_84 (fun f8 H locs hT_f8 hP hD hS => ?_)
    have hP : va_P G cl [(a0, .inr (8, [.ref a1, .ref a2, .ref a3, .ref a4, .ref a5, .ref a6, .ref a7, .int v_Mw_7])), (a1, .inl (cI, 16, .inl f2)), (a2, .inl (cI, 16, .inl f3)), (a3, .inl (cI, 16, .inl f4)), (a4, .inl (cI, 16, .inl f5)), (a5, .inl (cI, 16, .inl f6)), (a6, .inl (cI, 16, .inl f7)), (a7, .inl (cI, 16, .inl f8))] H := hP
    have hD : va_D A [(a0, .inr (8, [.ref a1, .ref a2, .ref a3, .ref a4, .ref a5, .ref a6, .ref a7, .int v_Mw_7])), (a1, .inl (cI, 16, .inl f2)), (a2, .inl (cI, 16, .inl f3)), (a3, .inl (cI, 16, .inl f4)), (a4, .inl (cI, 16, .inl f5)), (a5, .inl (cI, 16, .inl f6)), (a6, .inl (cI, 16, .inl f7)), (a7, .inl (cI, 16, .inl f8))] := hD
    refine lv_aload_n hx hb dX8_put_85 rfl (lv_at hl 0 rfl) ?_
    refine lv_dup hx hb dX8_put_86 rfl ?_
    refine k_get hC hK hP iX8 0 7 wf_X8_9 rfl (by decide) rfl rfl dX8_put_87 ?_
    refine lv_iconst (v := 1) hx hb dX8_put_90 (by decide) ?_
    refine lv_iadd hx hb dX8_put_91 ?_
    refine t_i (fun q => q.toInt = v_Mw_7.toInt + 1) (add_i (by show (-2147483648 : Int) ≤ v_Mw_7.toInt + 1; omega) (by show v_Mw_7.toInt + 1 ≤ (2147483647 : Int); omega)) (fun z9 tz9 => ?_)
    refine k_put hC hK hP hD hS iX8 tyX8_ok nmX8 0 7 wf_X8_9 rfl (by decide) rfl rfl rfl rfl (Nat.le_of_ble_eq_true rfl) dX8_put_92 (fun H locs hP hD hS => ?_)
    have hP : va_P G cl [(a0, .inr (8, [.ref a1, .ref a2, .ref a3, .ref a4, .ref a5, .ref a6, .ref a7, .int z9])), (a1, .inl (cI, 16, .inl f2)), (a2, .inl (cI, 16, .inl f3)), (a3, .inl (cI, 16, .inl f4)), (a4, .inl (cI, 16, .inl f5)), (a5, .inl (cI, 16, .inl f6)), (a6, .inl (cI, 16, .inl f7)), (a7, .inl (cI, 16, .inl f8))] H := hP
    have hD : va_D A [(a0, .inr (8, [.ref a1, .ref a2, .ref a3, .ref a4, .ref a5, .ref a6, .ref a7, .int z9])), (a1, .inl (cI, 16, .inl f2)), (a2, .inl (cI, 16, .inl f3)), (a3, .inl (cI, 16, .inl f4)), (a4, .inl (cI, 16, .inl f5)), (a5, .inl (cI, 16, .inl f6)), (a6, .inl (cI, 16, .inl f7)), (a7, .inl (cI, 16, .inl f8))] := hD
    rw [← hQm]
    exact k_vret hC hr hlk hK hP hD hS (z9, f2, f3, f4, f5, f6, f7, f8) [0, 1, 2, 3, 4, 5, 6, 7] rfl (by decide +kernel) (show 1 ≤ z9.toInt ∧ z9.toInt ≤ 16 from by omega) (Nat.le_of_ble_eq_true rfl) (Nat.le_of_ble_eq_true rfl) dX8_put_95
  · have dc1 : 16 ≤ v_Mw_7.toInt := fa_nlt c1
    rw [← hQm]
    exact k_vret hC hr hlk hK hP hD hS (v_Mw_7, g_Mw_left, g_Mw_right, g_Mw_year, g_Mw_trader, g_Mw_how, g_Mw_told, g_Mw_untold) [0, 1, 2, 3, 4, 5, 6, 7] rfl (by decide +kernel) (show 1 ≤ v_Mw_7.toInt ∧ v_Mw_7.toInt ≤ 16 from by omega) (Nat.le_of_ble_eq_true rfl) (Nat.le_of_ble_eq_true rfl) dX8_put_12
theorem dX2_readWeigh_0 : decode cX2_readWeigh 0 = .ok (.aload_n 0, 1) := by decide +kernel
theorem dX2_readWeigh_1 : decode cX2_readWeigh 1 = .ok (.getfield 21, 3) := by decide +kernel
theorem dX2_readWeigh_4 : decode cX2_readWeigh 4 = .ok (.getfield 200, 3) := by decide +kernel
set_option maxRecDepth 100000 in
theorem wf_X2_200 : Cond.fieldLinkNest RX2 200 "StoneTrust$Village" "weighings" "LStoneTrust$Weighings;" "StoneTrust" ∈ nests := nm_ (List.mem_of_getElem? (i := 261) (by decide +kernel)) rfl
theorem dX2_readWeigh_7 : decode cX2_readWeigh 7 = .ok (.getfield 204, 3) := by decide +kernel
set_option maxRecDepth 100000 in
theorem wf_X2_204 : Cond.fieldLinkNest RX2 204 "StoneTrust$Weighings" "size" "I" "StoneTrust" ∈ nests := nm_ (List.mem_of_getElem? (i := 167) (by decide +kernel)) rfl
theorem dX2_readWeigh_10 : decode cX2_readWeigh 10 = .ok (.bipush 16, 2) := by decide +kernel
theorem dX2_readWeigh_12 : decode cX2_readWeigh 12 = .ok (.if_icmp .lt 9, 3) := by decide +kernel
theorem dX2_readWeigh_21 : decode cX2_readWeigh 21 = .ok (.aload_n 0, 1) := by decide +kernel
theorem dX2_readWeigh_22 : decode cX2_readWeigh 22 = .ok (.getfield 12, 3) := by decide +kernel
theorem dX2_readWeigh_25 : decode cX2_readWeigh 25 = .ok (.invokevirtual 104, 3) := by decide +kernel
theorem dX2_readWeigh_28 : decode cX2_readWeigh 28 = .ok (.aload_n 0, 1) := by decide +kernel
theorem dX2_readWeigh_29 : decode cX2_readWeigh 29 = .ok (.iconst 0, 1) := by decide +kernel
theorem dX2_readWeigh_30 : decode cX2_readWeigh 30 = .ok (.invokevirtual 209, 3) := by decide +kernel
set_option maxRecDepth 100000 in
theorem wm_X2_209 : Cond.methodLink RX2 209 yX2_takePile ∈ gw := gm (List.mem_of_getElem? (i := 699) (by decide +kernel)) rfl
set_option maxRecDepth 100000 in
theorem mi_X2_takePile : MI yX2_takePile cX2_takePile 5 (some .int) 1 := ⟨gm (List.mem_of_getElem? (i := 702) rfl) rfl, gm (List.mem_of_getElem? (i := 118) (by decide +kernel)) rfl, by decide, by decide, by decide +kernel⟩
set_option maxRecDepth 100000 in
theorem in_X2_takePile : Cond.instanceMethod yX2_takePile ∈ gw := gm (List.mem_of_getElem? (i := 701) (by decide +kernel)) rfl
set_option maxRecDepth 100000 in
theorem se_X2_takePile : Cond.selects yX2_takePile.cls yX2_takePile yX2_takePile ∈ gw := gm (List.mem_of_getElem? (i := 16) (by decide +kernel)) rfl
theorem dX2_readWeigh_33 : decode cX2_readWeigh 33 = .ok (.istore_n 1, 1) := by decide +kernel
theorem dX2_readWeigh_34 : decode cX2_readWeigh 34 = .ok (.iload_n 1, 1) := by decide +kernel
theorem dX2_readWeigh_35 : decode cX2_readWeigh 35 = .ok (.ifCond .lt 13, 3) := by decide +kernel
theorem dX2_readWeigh_48 : decode cX2_readWeigh 48 = .ok (.iconst 0, 1) := by decide +kernel
theorem dX2_readWeigh_49 : decode cX2_readWeigh 49 = .ok (.ireturn, 1) := by decide +kernel
theorem dX2_readWeigh_38 : decode cX2_readWeigh 38 = .ok (.aload_n 0, 1) := by decide +kernel
theorem dX2_readWeigh_39 : decode cX2_readWeigh 39 = .ok (.ldc2_w 213, 3) := by decide +kernel
set_option maxRecDepth 100000 in
theorem kl_X2_213 : Cond.constantLong RX2 213 2003399784 ∈ gw := gm (List.mem_of_getElem? (i := 703) (by decide +kernel)) rfl
theorem dX2_readWeigh_42 : decode cX2_readWeigh 42 = .ok (.invokevirtual 113, 3) := by decide +kernel
theorem dX2_readWeigh_45 : decode cX2_readWeigh 45 = .ok (.ifCond .ne 5, 3) := by decide +kernel
theorem dX2_readWeigh_50 : decode cX2_readWeigh 50 = .ok (.aload_n 0, 1) := by decide +kernel
theorem dX2_readWeigh_51 : decode cX2_readWeigh 51 = .ok (.iload_n 1, 1) := by decide +kernel
theorem dX2_readWeigh_52 : decode cX2_readWeigh 52 = .ok (.invokevirtual 209, 3) := by decide +kernel
theorem dX2_readWeigh_55 : decode cX2_readWeigh 55 = .ok (.istore_n 2, 1) := by decide +kernel
theorem dX2_readWeigh_56 : decode cX2_readWeigh 56 = .ok (.iload_n 2, 1) := by decide +kernel
theorem dX2_readWeigh_57 : decode cX2_readWeigh 57 = .ok (.ifCond .lt 23, 3) := by decide +kernel
theorem dX2_readWeigh_80 : decode cX2_readWeigh 80 = .ok (.iconst 0, 1) := by decide +kernel
theorem dX2_readWeigh_81 : decode cX2_readWeigh 81 = .ok (.ireturn, 1) := by decide +kernel
theorem dX2_readWeigh_60 : decode cX2_readWeigh 60 = .ok (.aload_n 0, 1) := by decide +kernel
theorem dX2_readWeigh_61 : decode cX2_readWeigh 61 = .ok (.ldc2_w 172, 3) := by decide +kernel
theorem dX2_readWeigh_64 : decode cX2_readWeigh 64 = .ok (.invokevirtual 113, 3) := by decide +kernel
theorem dX2_readWeigh_67 : decode cX2_readWeigh 67 = .ok (.ifCond .eq 13, 3) := by decide +kernel
theorem dX2_readWeigh_70 : decode cX2_readWeigh 70 = .ok (.aload_n 0, 1) := by decide +kernel
theorem dX2_readWeigh_71 : decode cX2_readWeigh 71 = .ok (.iconst 0, 1) := by decide +kernel
theorem dX2_readWeigh_72 : decode cX2_readWeigh 72 = .ok (.bipush 9, 2) := by decide +kernel
theorem dX2_readWeigh_74 : decode cX2_readWeigh 74 = .ok (.invokevirtual 107, 3) := by decide +kernel
theorem dX2_readWeigh_77 : decode cX2_readWeigh 77 = .ok (.ifCond .ne 5, 3) := by decide +kernel
theorem dX2_readWeigh_82 : decode cX2_readWeigh 82 = .ok (.aload_n 0, 1) := by decide +kernel
theorem dX2_readWeigh_83 : decode cX2_readWeigh 83 = .ok (.getfield 25, 3) := by decide +kernel
theorem dX2_readWeigh_86 : decode cX2_readWeigh 86 = .ok (.istore_n 3, 1) := by decide +kernel
theorem dX2_readWeigh_87 : decode cX2_readWeigh 87 = .ok (.aload_n 0, 1) := by decide +kernel
theorem dX2_readWeigh_88 : decode cX2_readWeigh 88 = .ok (.ldc2_w 215, 3) := by decide +kernel
set_option maxRecDepth 100000 in
theorem kl_X2_215 : Cond.constantLong RX2 215 25209 ∈ gw := gm (List.mem_of_getElem? (i := 704) (by decide +kernel)) rfl
theorem dX2_readWeigh_91 : decode cX2_readWeigh 91 = .ok (.invokevirtual 113, 3) := by decide +kernel
theorem dX2_readWeigh_94 : decode cX2_readWeigh 94 = .ok (.ifCond .eq 13, 3) := by decide +kernel
theorem dX2_readWeigh_107 : decode cX2_readWeigh 107 = .ok (.iconst 0, 1) := by decide +kernel
theorem dX2_readWeigh_108 : decode cX2_readWeigh 108 = .ok (.ireturn, 1) := by decide +kernel
theorem dX2_readWeigh_97 : decode cX2_readWeigh 97 = .ok (.aload_n 0, 1) := by decide +kernel
theorem dX2_readWeigh_98 : decode cX2_readWeigh 98 = .ok (.iconst 0, 1) := by decide +kernel
theorem dX2_readWeigh_99 : decode cX2_readWeigh 99 = .ok (.bipush 9, 2) := by decide +kernel
theorem dX2_readWeigh_101 : decode cX2_readWeigh 101 = .ok (.invokevirtual 107, 3) := by decide +kernel
theorem dX2_readWeigh_104 : decode cX2_readWeigh 104 = .ok (.ifCond .ne 5, 3) := by decide +kernel
theorem dX2_readWeigh_109 : decode cX2_readWeigh 109 = .ok (.aload_n 0, 1) := by decide +kernel
theorem dX2_readWeigh_110 : decode cX2_readWeigh 110 = .ok (.getfield 25, 3) := by decide +kernel
theorem dX2_readWeigh_113 : decode cX2_readWeigh 113 = .ok (.istore 4, 2) := by decide +kernel
theorem dX2_readWeigh_115 : decode cX2_readWeigh 115 = .ok (.aload_n 0, 1) := by decide +kernel
theorem dX2_readWeigh_116 : decode cX2_readWeigh 116 = .ok (.invokevirtual 217, 3) := by decide +kernel
set_option maxRecDepth 100000 in
theorem wm_X2_217 : Cond.methodLink RX2 217 yX2_verdictHere ∈ gw := gm (List.mem_of_getElem? (i := 705) (by decide +kernel)) rfl
set_option maxRecDepth 100000 in
theorem mi_X2_verdictHere : MI yX2_verdictHere cX2_verdictHere 1 (some .int) 0 := ⟨gm (List.mem_of_getElem? (i := 708) rfl) rfl, gm (List.mem_of_getElem? (i := 118) (by decide +kernel)) rfl, by decide, by decide, by decide +kernel⟩
set_option maxRecDepth 100000 in
theorem in_X2_verdictHere : Cond.instanceMethod yX2_verdictHere ∈ gw := gm (List.mem_of_getElem? (i := 707) (by decide +kernel)) rfl
set_option maxRecDepth 100000 in
theorem se_X2_verdictHere : Cond.selects yX2_verdictHere.cls yX2_verdictHere yX2_verdictHere ∈ gw := gm (List.mem_of_getElem? (i := 17) (by decide +kernel)) rfl
theorem dX2_readWeigh_119 : decode cX2_readWeigh 119 = .ok (.istore 5, 2) := by decide +kernel
theorem dX2_readWeigh_121 : decode cX2_readWeigh 121 = .ok (.iload 5, 2) := by decide +kernel
theorem dX2_readWeigh_123 : decode cX2_readWeigh 123 = .ok (.ifCond .ge 9, 3) := by decide +kernel
theorem dX2_readWeigh_132 : decode cX2_readWeigh 132 = .ok (.aload_n 0, 1) := by decide +kernel
theorem dX2_readWeigh_133 : decode cX2_readWeigh 133 = .ok (.getfield 12, 3) := by decide +kernel
theorem dX2_readWeigh_136 : decode cX2_readWeigh 136 = .ok (.invokevirtual 104, 3) := by decide +kernel
theorem dX2_readWeigh_139 : decode cX2_readWeigh 139 = .ok (.aload_n 0, 1) := by decide +kernel
theorem dX2_readWeigh_140 : decode cX2_readWeigh 140 = .ok (.getfield 21, 3) := by decide +kernel
theorem dX2_readWeigh_143 : decode cX2_readWeigh 143 = .ok (.getfield 200, 3) := by decide +kernel
theorem dX2_readWeigh_146 : decode cX2_readWeigh 146 = .ok (.iload_n 1, 1) := by decide +kernel
theorem dX2_readWeigh_147 : decode cX2_readWeigh 147 = .ok (.iload_n 2, 1) := by decide +kernel
theorem dX2_readWeigh_148 : decode cX2_readWeigh 148 = .ok (.iload_n 3, 1) := by decide +kernel
theorem dX2_readWeigh_149 : decode cX2_readWeigh 149 = .ok (.iload 4, 2) := by decide +kernel
theorem dX2_readWeigh_151 : decode cX2_readWeigh 151 = .ok (.iload 5, 2) := by decide +kernel
theorem dX2_readWeigh_153 : decode cX2_readWeigh 153 = .ok (.invokevirtual 220, 3) := by decide +kernel
set_option maxRecDepth 100000 in
theorem wm_X2_220 : Cond.methodLink RX2 220 yX8_put ∈ gw := gm (List.mem_of_getElem? (i := 712) (by decide +kernel)) rfl
theorem dX2_readWeigh_156 : decode cX2_readWeigh 156 = .ok (.aload_n 0, 1) := by decide +kernel
theorem dX2_readWeigh_157 : decode cX2_readWeigh 157 = .ok (.invokevirtual 128, 3) := by decide +kernel
theorem dX2_readWeigh_160 : decode cX2_readWeigh 160 = .ok (.ireturn, 1) := by decide +kernel
theorem dX2_readWeigh_126 : decode cX2_readWeigh 126 = .ok (.aload_n 0, 1) := by decide +kernel
theorem dX2_readWeigh_127 : decode cX2_readWeigh 127 = .ok (.iconst 2, 1) := by decide +kernel
theorem dX2_readWeigh_128 : decode cX2_readWeigh 128 = .ok (.invokevirtual 100, 3) := by decide +kernel
theorem dX2_readWeigh_131 : decode cX2_readWeigh 131 = .ok (.ireturn, 1) := by decide +kernel
theorem dX2_readWeigh_15 : decode cX2_readWeigh 15 = .ok (.aload_n 0, 1) := by decide +kernel
theorem dX2_readWeigh_16 : decode cX2_readWeigh 16 = .ok (.iconst 2, 1) := by decide +kernel
theorem dX2_readWeigh_17 : decode cX2_readWeigh 17 = .ok (.invokevirtual 100, 3) := by decide +kernel
theorem dX2_readWeigh_20 : decode cX2_readWeigh 20 = .ok (.ireturn, 1) := by decide +kernel
set_option maxHeartbeats 4000000 in
set_option maxRecDepth 100000 in
theorem c72_X2_readWeigh (l : Launch) (G : va_G) (cI cJ cB cZ : ClassId) (a0 a1 a2 a3 a4 a5 a6 a7 a8 a9 a10 a11 a12 a13 a14 a15 a16 a17 a18 a19 a20 a21 : Nat) (v_rd_2 : Int32) (v_rd_3 : Int32) (v_rd_4 : Int32) (v_rd_5 : Int32) (v_rd_6 : Int32) (v_rd_7 : Int32) (v_M_0 : Int32) (v_M_1 : Int32) (v_M_2 : Int32) (v_M_5 : Int32) (v_Mw_7 : Int32) (v_tp_1 : Int32) (v_tp_2 : Int32) (v_tp_3 : Int32) (v_tp_4 : Int32) (w_tp_5 : Int64) (v_tp_6 : Int32) (g_tp_bytes : Nat → Int32) (g_M_name : Nat → Int64) (g_Mw_left : Nat → Int32) (g_Mw_right : Nat → Int32) (g_Mw_year : Nat → Int32) (g_Mw_trader : Nat → Int32) (g_Mw_how : Nat → Int32) (g_Mw_told : Nat → Int32) (g_Mw_untold : Nat → Int32) (hv_0 : 0 ≤ v_rd_3.toInt) (hv_1 : v_rd_3.toInt ≤ 1) (hv_2 : 0 ≤ v_rd_4.toInt) (hv_3 : v_rd_4.toInt ≤ 1) (hv_4 : 0 ≤ v_M_0.toInt) (hv_5 : v_M_0.toInt ≤ 110) (hv_6 : 0 ≤ v_M_1.toInt) (hv_7 : v_M_1.toInt ≤ 110) (hv_8 : 0 ≤ v_M_5.toInt) (hv_9 : v_M_5.toInt ≤ 6) (hv_10 : 0 ≤ v_Mw_7.toInt) (hv_11 : v_Mw_7.toInt ≤ 16) (hv_12 : 0 ≤ v_tp_1.toInt) (hv_13 : v_tp_1.toInt ≤ 1300) (hv_14 : 0 ≤ v_tp_2.toInt) (hv_15 : v_tp_2.toInt ≤ 1300) (hT_g_tp_bytes : TA (-128) 127 g_tp_bytes) : Con l G (TY cI cJ cB cZ) yX2_readWeigh cX2_readWeigh 6 (some .boolean) ({ frames := 4, cells := 0, slots := 0, locals := 85 } : Room) [.ref a0] [(a0, .inr (2, [.ref a1, .ref a2, .int v_rd_2, .int v_rd_3, .int v_rd_4, .int v_rd_5, .int v_rd_6, .int v_rd_7])), (a2, .inr (7, [.int v_M_0, .int v_M_1, .int v_M_2, .ref a3, .ref a4, .int v_M_5, .ref a5, .ref a6, .ref a7, .ref a8, .ref a9, .ref a10, .ref a11, .ref a12, .ref a13])), (a12, .inr (8, [.ref a14, .ref a15, .ref a16, .ref a17, .ref a18, .ref a19, .ref a20, .int v_Mw_7])), (a1, .inr (5, [.ref a21, .int v_tp_1, .int v_tp_2, .int v_tp_3, .int v_tp_4, .long w_tp_5, .int v_tp_6])), (a21, .inl (cB, 1300, .inl g_tp_bytes)), (a5, .inl (cJ, 6, .inr (.inl g_M_name))), (a14, .inl (cI, 16, .inl g_Mw_left)), (a15, .inl (cI, 16, .inl g_Mw_right)), (a16, .inl (cI, 16, .inl g_Mw_year)), (a17, .inl (cI, 16, .inl g_Mw_trader)), (a18, .inl (cI, 16, .inl g_Mw_how)), (a19, .inl (cI, 16, .inl g_Mw_told)), (a20, .inl (cI, 16, .inl g_Mw_untold))] (QI G (TY cI cJ cB cZ) (fun (r : Int32) (u : Int32 × Int32 × Int32 × Int32 × Int32 × Int32 × Int32 × Int64 × Int32 × (Nat → Int32) × (Nat → Int32) × (Nat → Int32) × (Nat → Int32) × (Nat → Int32) × (Nat → Int32) × (Nat → Int32)) => (0 ≤ r.toInt ∧ r.toInt ≤ 1 ∧ 0 ≤ u.2.2.2.1.toInt ∧ u.2.2.2.1.toInt ≤ 16 ∧ 0 ≤ u.2.2.2.2.1.toInt ∧ u.2.2.2.2.1.toInt ≤ 1300)) (fun u : Int32 × Int32 × Int32 × Int32 × Int32 × Int32 × Int32 × Int64 × Int32 × (Nat → Int32) × (Nat → Int32) × (Nat → Int32) × (Nat → Int32) × (Nat → Int32) × (Nat → Int32) × (Nat → Int32) => [(a0, .inr (2, [.ref a1, .ref a2, .int u.1, .int v_rd_3, .int v_rd_4, .int v_rd_5, .int u.2.1, .int u.2.2.1])), (a2, .inr (7, [.int v_M_0, .int v_M_1, .int v_M_2, .ref a3, .ref a4, .int v_M_5, .ref a5, .ref a6, .ref a7, .ref a8, .ref a9, .ref a10, .ref a11, .ref a12, .ref a13])), (a12, .inr (8, [.ref a14, .ref a15, .ref a16, .ref a17, .ref a18, .ref a19, .ref a20, .int u.2.2.2.1])), (a1, .inr (5, [.ref a21, .int v_tp_1, .int u.2.2.2.2.1, .int u.2.2.2.2.2.1, .int u.2.2.2.2.2.2.1, .long u.2.2.2.2.2.2.2.1, .int u.2.2.2.2.2.2.2.2.1])), (a21, .inl (cB, 1300, .inl g_tp_bytes)), (a5, .inl (cJ, 6, .inr (.inl g_M_name))), (a14, .inl (cI, 16, .inl u.2.2.2.2.2.2.2.2.2.1)), (a15, .inl (cI, 16, .inl u.2.2.2.2.2.2.2.2.2.2.1)), (a16, .inl (cI, 16, .inl u.2.2.2.2.2.2.2.2.2.2.2.1)), (a17, .inl (cI, 16, .inl u.2.2.2.2.2.2.2.2.2.2.2.2.1)), (a18, .inl (cI, 16, .inl u.2.2.2.2.2.2.2.2.2.2.2.2.2.1)), (a19, .inl (cI, 16, .inl u.2.2.2.2.2.2.2.2.2.2.2.2.2.2.1)), (a20, .inl (cI, 16, .inl u.2.2.2.2.2.2.2.2.2.2.2.2.2.2.2))])) := by
  refine k_met (by decide) (Nat.le_of_ble_eq_true rfl) ?_
  intro p e s m below meth c A ls hC hr hlk hnm hN hZ hK hA hP hD hS hl
  have hl : lv_has ls 6 [(0, .ref a0)] := hl
  generalize hQm : MQ below _ _ s _ _ A = Qm
  generalize (List.toArray _ : Array Value) = args at hC hQm ⊢
  obtain ⟨hx, hb, hml, hown, hts⟩ := id hC
  obtain ⟨H, hH⟩ : ∃ q, q = s.heap := ⟨_, rfl⟩
  obtain ⟨locs, hlo⟩ : ∃ q : List Loc, q = [] := ⟨_, rfl⟩
  have hP : va_P G cl [(a0, .inr (2, [.ref a1, .ref a2, .int v_rd_2, .int v_rd_3, .int v_rd_4, .int v_rd_5, .int v_rd_6, .int v_rd_7])), (a2, .inr (7, [.int v_M_0, .int v_M_1, .int v_M_2, .ref a3, .ref a4, .int v_M_5, .ref a5, .ref a6, .ref a7, .ref a8, .ref a9, .ref a10, .ref a11, .ref a12, .ref a13])), (a12, .inr (8, [.ref a14, .ref a15, .ref a16, .ref a17, .ref a18, .ref a19, .ref a20, .int v_Mw_7])), (a1, .inr (5, [.ref a21, .int v_tp_1, .int v_tp_2, .int v_tp_3, .int v_tp_4, .long w_tp_5, .int v_tp_6])), (a21, .inl (cB, 1300, .inl g_tp_bytes)), (a5, .inl (cJ, 6, .inr (.inl g_M_name))), (a14, .inl (cI, 16, .inl g_Mw_left)), (a15, .inl (cI, 16, .inl g_Mw_right)), (a16, .inl (cI, 16, .inl g_Mw_year)), (a17, .inl (cI, 16, .inl g_Mw_trader)), (a18, .inl (cI, 16, .inl g_Mw_how)), (a19, .inl (cI, 16, .inl g_Mw_told)), (a20, .inl (cI, 16, .inl g_Mw_untold))] H := by rw [hH]; exact hP
  have hS : va_S A s.heap H locs := by rw [hH, hlo]; exact hS
  rw [← hlo]
  rw [← hH]
  refine lv_aload_n hx hb dX2_readWeigh_0 rfl (lv_at hl 0 rfl) ?_
  refine k_get hC hK hP iX2 0 1 wf_X2_21 rfl (by decide) rfl rfl dX2_readWeigh_1 ?_
  refine k_getN hC hN hK hP iX7 1 13 wf_X2_200 rfl (by decide) rfl rfl dX2_readWeigh_4 ?_
  refine k_getN hC hN hK hP iX8 2 7 wf_X2_204 rfl (by decide) rfl rfl dX2_readWeigh_7 ?_
  refine lv_bipush (v := 16) hx hb dX2_readWeigh_10 (by decide) ?_
  refine lv_icmp_lt (tgt := 21) hx hb dX2_readWeigh_12 (by decide) (fun c1 => ?_) (fun c1 => ?_)
  · have dc1 : v_Mw_7.toInt < 16 := (fa_lt _ _).mp c1
    refine lv_aload_n hx hb dX2_readWeigh_21 rfl (lv_at hl 0 rfl) ?_
    refine k_get hC hK hP iX2 0 0 wf_X2_12 rfl (by decide) rfl rfl dX2_readWeigh_22 ?_
    refine k_cv (wr := [(a0, .inr (2, [.ref a1, .ref a2, .int v_rd_2, .int v_rd_3, .int v_rd_4, .int v_rd_5, .int v_rd_6, .int v_rd_7])), (a2, .inr (7, [.int v_M_0, .int v_M_1, .int v_M_2, .ref a3, .ref a4, .int v_M_5, .ref a5, .ref a6, .ref a7, .ref a8, .ref a9, .ref a10, .ref a11, .ref a12, .ref a13])), (a12, .inr (8, [.ref a14, .ref a15, .ref a16, .ref a17, .ref a18, .ref a19, .ref a20, .int v_Mw_7])), (a5, .inl (cJ, 6, .inr (.inl g_M_name))), (a14, .inl (cI, 16, .inl g_Mw_left)), (a15, .inl (cI, 16, .inl g_Mw_right)), (a16, .inl (cI, 16, .inl g_Mw_year)), (a17, .inl (cI, 16, .inl g_Mw_trader)), (a18, .inl (cI, 16, .inl g_Mw_how)), (a19, .inl (cI, 16, .inl g_Mw_told)), (a20, .inl (cI, 16, .inl g_Mw_untold))]) (k_rV hC hN hZ hS hA hK hP hD (c20_X5_advance l G cI cJ cB cZ a1 a21 v_tp_1 v_tp_2 v_tp_3 v_tp_4 w_tp_5 v_tp_6 g_tp_bytes hv_12 hv_13 hv_14 hv_15 hT_g_tp_bytes) [3, 4] rfl (by decide +kernel) mi_X5_advance in_X5_advance se_X5_advance wm_X2_104 5 3 rfl rfl rfl hl.1 rfl rfl (Nat.le_of_ble_eq_true rfl) ⟨(Nat.le_of_ble_eq_true rfl), (Nat.le_of_ble_eq_true rfl)⟩ dX2_readWeigh_25 ⟨(Nat.le_of_ble_eq_true rfl), (Nat.le_of_ble_eq_true rfl)⟩) hP hD hS hA [3, 4] [0, 1, 2, 5, 6, 7, 8, 9, 10, 11, 12] rfl rfl (by decide +kernel) (by decide +kernel) (fun u2 H locs hp hP hD hS => ?_)
    obtain ⟨h3, h4, h5, y6, h7⟩ := u2
    have hp : (0 ≤ h3.toInt ∧ h3.toInt ≤ 1300 ∧ 0 ≤ h4.toInt ∧ h4.toInt ≤ 1300 ∧ 0 ≤ h5.toInt ∧ h5.toInt ≤ 4) := hp
    have hP : va_P G cl [(a0, .inr (2, [.ref a1, .ref a2, .int v_rd_2, .int v_rd_3, .int v_rd_4, .int v_rd_5, .int v_rd_6, .int v_rd_7])), (a2, .inr (7, [.int v_M_0, .int v_M_1, .int v_M_2, .ref a3, .ref a4, .int v_M_5, .ref a5, .ref a6, .ref a7, .ref a8, .ref a9, .ref a10, .ref a11, .ref a12, .ref a13])), (a12, .inr (8, [.ref a14, .ref a15, .ref a16, .ref a17, .ref a18, .ref a19, .ref a20, .int v_Mw_7])), (a5, .inl (cJ, 6, .inr (.inl g_M_name))), (a14, .inl (cI, 16, .inl g_Mw_left)), (a15, .inl (cI, 16, .inl g_Mw_right)), (a16, .inl (cI, 16, .inl g_Mw_year)), (a17, .inl (cI, 16, .inl g_Mw_trader)), (a18, .inl (cI, 16, .inl g_Mw_how)), (a19, .inl (cI, 16, .inl g_Mw_told)), (a20, .inl (cI, 16, .inl g_Mw_untold)), (a1, .inr (5, [.ref a21, .int v_tp_1, .int h3, .int h4, .int h5, .long y6, .int h7])), (a21, .inl (cB, 1300, .inl g_tp_bytes))] H := hP
    have hD : va_D A [(a0, .inr (2, [.ref a1, .ref a2, .int v_rd_2, .int v_rd_3, .int v_rd_4, .int v_rd_5, .int v_rd_6, .int v_rd_7])), (a2, .inr (7, [.int v_M_0, .int v_M_1, .int v_M_2, .ref a3, .ref a4, .int v_M_5, .ref a5, .ref a6, .ref a7, .ref a8, .ref a9, .ref a10, .ref a11, .ref a12, .ref a13])), (a12, .inr (8, [.ref a14, .ref a15, .ref a16, .ref a17, .ref a18, .ref a19, .ref a20, .int v_Mw_7])), (a5, .inl (cJ, 6, .inr (.inl g_M_name))), (a14, .inl (cI, 16, .inl g_Mw_left)), (a15, .inl (cI, 16, .inl g_Mw_right)), (a16, .inl (cI, 16, .inl g_Mw_year)), (a17, .inl (cI, 16, .inl g_Mw_trader)), (a18, .inl (cI, 16, .inl g_Mw_how)), (a19, .inl (cI, 16, .inl g_Mw_told)), (a20, .inl (cI, 16, .inl g_Mw_untold)), (a1, .inr (5, [.ref a21, .int v_tp_1, .int h3, .int h4, .int h5, .long y6, .int h7])), (a21, .inl (cB, 1300, .inl g_tp_bytes))] := hD
    have hq2 := hp
    refine lv_aload_n hx hb dX2_readWeigh_28 rfl (lv_at hl 0 rfl) ?_
    refine lv_iconst (v := 0) hx hb dX2_readWeigh_29 (by decide) ?_
    have l_l9 : (0 : Int32).toInt = 0 := rfl
    refine k_ci (wr := [(a12, .inr (8, [.ref a14, .ref a15, .ref a16, .ref a17, .ref a18, .ref a19, .ref a20, .int v_Mw_7])), (a14, .inl (cI, 16, .inl g_Mw_left)), (a15, .inl (cI, 16, .inl g_Mw_right)), (a16, .inl (cI, 16, .inl g_Mw_year)), (a17, .inl (cI, 16, .inl g_Mw_trader)), (a18, .inl (cI, 16, .inl g_Mw_how)), (a19, .inl (cI, 16, .inl g_Mw_told)), (a20, .inl (cI, 16, .inl g_Mw_untold))]) (k_rV hC hN hZ hS hA hK hP hD (c69_X2_takePile l G cI cJ cB cZ a0 a1 a2 a21 a3 a4 a5 a6 a7 a8 a9 a10 a11 a12 a13 0 v_rd_2 v_rd_3 v_rd_4 v_rd_5 v_rd_6 v_rd_7 v_tp_1 h3 h4 h5 y6 h7 v_M_0 v_M_1 v_M_2 v_M_5 g_M_name g_tp_bytes hv_0 hv_1 hv_2 hv_3 hv_12 hv_13 (by omega) (by omega) hv_4 hv_5 hv_6 hv_7 hv_8 hv_9 hT_g_tp_bytes) [0, 11, 1, 3, 12] rfl (by decide +kernel) mi_X2_takePile in_X2_takePile se_X2_takePile wm_X2_209 2 0 rfl rfl rfl hl.1 rfl rfl (Nat.le_of_ble_eq_true rfl) ⟨(Nat.le_of_ble_eq_true rfl), (Nat.le_of_ble_eq_true rfl)⟩ dX2_readWeigh_30 ⟨(Nat.le_of_ble_eq_true rfl), (Nat.le_of_ble_eq_true rfl)⟩) hP hD hS hA [0, 11, 1, 3, 12] [2, 4, 5, 6, 7, 8, 9, 10] rfl rfl (by decide +kernel) (by decide +kernel) (fun r8 u8 H locs hp hP hD hS => ?_)
    obtain ⟨h10, h11, h12, h13, h14, y15, h16⟩ := u8
    have hp : ((-1) ≤ r8.toInt ∧ r8.toInt ≤ 63 ∧ 0 ≤ h12.toInt ∧ h12.toInt ≤ 1300) := hp
    have hP : va_P G cl [(a12, .inr (8, [.ref a14, .ref a15, .ref a16, .ref a17, .ref a18, .ref a19, .ref a20, .int v_Mw_7])), (a14, .inl (cI, 16, .inl g_Mw_left)), (a15, .inl (cI, 16, .inl g_Mw_right)), (a16, .inl (cI, 16, .inl g_Mw_year)), (a17, .inl (cI, 16, .inl g_Mw_trader)), (a18, .inl (cI, 16, .inl g_Mw_how)), (a19, .inl (cI, 16, .inl g_Mw_told)), (a20, .inl (cI, 16, .inl g_Mw_untold)), (a0, .inr (2, [.ref a1, .ref a2, .int v_rd_2, .int v_rd_3, .int v_rd_4, .int v_rd_5, .int h10, .int h11])), (a1, .inr (5, [.ref a21, .int v_tp_1, .int h12, .int h13, .int h14, .long y15, .int h16])), (a2, .inr (7, [.int v_M_0, .int v_M_1, .int v_M_2, .ref a3, .ref a4, .int v_M_5, .ref a5, .ref a6, .ref a7, .ref a8, .ref a9, .ref a10, .ref a11, .ref a12, .ref a13])), (a5, .inl (cJ, 6, .inr (.inl g_M_name))), (a21, .inl (cB, 1300, .inl g_tp_bytes))] H := hP
    have hD : va_D A [(a12, .inr (8, [.ref a14, .ref a15, .ref a16, .ref a17, .ref a18, .ref a19, .ref a20, .int v_Mw_7])), (a14, .inl (cI, 16, .inl g_Mw_left)), (a15, .inl (cI, 16, .inl g_Mw_right)), (a16, .inl (cI, 16, .inl g_Mw_year)), (a17, .inl (cI, 16, .inl g_Mw_trader)), (a18, .inl (cI, 16, .inl g_Mw_how)), (a19, .inl (cI, 16, .inl g_Mw_told)), (a20, .inl (cI, 16, .inl g_Mw_untold)), (a0, .inr (2, [.ref a1, .ref a2, .int v_rd_2, .int v_rd_3, .int v_rd_4, .int v_rd_5, .int h10, .int h11])), (a1, .inr (5, [.ref a21, .int v_tp_1, .int h12, .int h13, .int h14, .long y15, .int h16])), (a2, .inr (7, [.int v_M_0, .int v_M_1, .int v_M_2, .ref a3, .ref a4, .int v_M_5, .ref a5, .ref a6, .ref a7, .ref a8, .ref a9, .ref a10, .ref a11, .ref a12, .ref a13])), (a5, .inl (cJ, 6, .inr (.inl g_M_name))), (a21, .inl (cB, 1300, .inl g_tp_bytes))] := hD
    have hq8 := hp
    refine lv_istore_n (lv' := [(1, .int r8), (0, .ref a0)]) hx hb dX2_readWeigh_33 rfl hl (by decide) rfl (fun ls hl => ?_)
    refine lv_iload_n hx hb dX2_readWeigh_34 rfl (lv_at hl 0 rfl) ?_
    refine lv_if_lt (tgt := 48) hx hb dX2_readWeigh_35 (by decide) (fun c17 => ?_) (fun c17 => ?_)
    · have dc17 : r8.toInt < 0 := (fa_lt _ _).mp c17
      refine lv_iconst (v := 0) hx hb dX2_readWeigh_48 (by decide) ?_
      have l_l18 : (0 : Int32).toInt = 0 := rfl
      rw [← hQm]
      exact k_zret hC hr hlk hK hP hD hS (v_rd_2, h10, h11, v_Mw_7, h12, h13, h14, y15, h16, g_Mw_left, g_Mw_right, g_Mw_year, g_Mw_trader, g_Mw_how, g_Mw_told, g_Mw_untold) [8, 10, 0, 9, 12, 11, 1, 2, 3, 4, 5, 6, 7] rfl (by decide +kernel) rfl (show 0 ≤ (0 : Int32).toInt ∧ (0 : Int32).toInt ≤ 1 ∧ 0 ≤ v_Mw_7.toInt ∧ v_Mw_7.toInt ≤ 16 ∧ 0 ≤ h12.toInt ∧ h12.toInt ≤ 1300 from by omega) (Nat.le_of_ble_eq_true rfl) (Nat.le_of_ble_eq_true rfl) dX2_readWeigh_49
    · have dc17 : 0 ≤ r8.toInt := fa_nlt c17
      refine lv_aload_n hx hb dX2_readWeigh_38 rfl (lv_at hl 1 rfl) ?_
      refine lv_ldc2 (v := 2003399784) hx hb hown (hts _ kl_X2_213) dX2_readWeigh_39 ?_
      refine k_ci (wr := [(a12, .inr (8, [.ref a14, .ref a15, .ref a16, .ref a17, .ref a18, .ref a19, .ref a20, .int v_Mw_7])), (a14, .inl (cI, 16, .inl g_Mw_left)), (a15, .inl (cI, 16, .inl g_Mw_right)), (a16, .inl (cI, 16, .inl g_Mw_year)), (a17, .inl (cI, 16, .inl g_Mw_trader)), (a18, .inl (cI, 16, .inl g_Mw_how)), (a19, .inl (cI, 16, .inl g_Mw_told)), (a20, .inl (cI, 16, .inl g_Mw_untold)), (a2, .inr (7, [.int v_M_0, .int v_M_1, .int v_M_2, .ref a3, .ref a4, .int v_M_5, .ref a5, .ref a6, .ref a7, .ref a8, .ref a9, .ref a10, .ref a11, .ref a12, .ref a13])), (a5, .inl (cJ, 6, .inr (.inl g_M_name)))]) (k_rV hC hN hZ hS hA hK hP hD (c49_X2_takeWord l G cI cJ cB cZ a0 a1 a2 a21 2003399784 v_rd_2 v_rd_3 v_rd_4 v_rd_5 h10 h11 v_tp_1 h12 h13 h14 y15 h16 g_tp_bytes hv_0 hv_1 hv_2 hv_3 hv_12 hv_13 (by omega) (by omega) hT_g_tp_bytes) [8, 9, 12] rfl (by decide +kernel) mi_X2_takeWord in_X2_takeWord se_X2_takeWord wm_X2_113 2 8 rfl rfl rfl hl.1 rfl rfl (Nat.le_of_ble_eq_true rfl) ⟨(Nat.le_of_ble_eq_true rfl), (Nat.le_of_ble_eq_true rfl)⟩ dX2_readWeigh_42 ⟨(Nat.le_of_ble_eq_true rfl), (Nat.le_of_ble_eq_true rfl)⟩) hP hD hS hA [8, 9, 12] [0, 1, 2, 3, 4, 5, 6, 7, 10, 11] rfl rfl (by decide +kernel) (by decide +kernel) (fun r19 u19 H locs hp hP hD hS => ?_)
      obtain ⟨h20, h21, h22, h23, h24, y25, h26⟩ := u19
      have hp : (0 ≤ r19.toInt ∧ r19.toInt ≤ 1 ∧ 0 ≤ h22.toInt ∧ h22.toInt ≤ 1300) := hp
      have hP : va_P G cl [(a12, .inr (8, [.ref a14, .ref a15, .ref a16, .ref a17, .ref a18, .ref a19, .ref a20, .int v_Mw_7])), (a14, .inl (cI, 16, .inl g_Mw_left)), (a15, .inl (cI, 16, .inl g_Mw_right)), (a16, .inl (cI, 16, .inl g_Mw_year)), (a17, .inl (cI, 16, .inl g_Mw_trader)), (a18, .inl (cI, 16, .inl g_Mw_how)), (a19, .inl (cI, 16, .inl g_Mw_told)), (a20, .inl (cI, 16, .inl g_Mw_untold)), (a2, .inr (7, [.int v_M_0, .int v_M_1, .int v_M_2, .ref a3, .ref a4, .int v_M_5, .ref a5, .ref a6, .ref a7, .ref a8, .ref a9, .ref a10, .ref a11, .ref a12, .ref a13])), (a5, .inl (cJ, 6, .inr (.inl g_M_name))), (a0, .inr (2, [.ref a1, .ref a2, .int v_rd_2, .int v_rd_3, .int v_rd_4, .int v_rd_5, .int h20, .int h21])), (a1, .inr (5, [.ref a21, .int v_tp_1, .int h22, .int h23, .int h24, .long y25, .int h26])), (a21, .inl (cB, 1300, .inl g_tp_bytes))] H := hP
      have hD : va_D A [(a12, .inr (8, [.ref a14, .ref a15, .ref a16, .ref a17, .ref a18, .ref a19, .ref a20, .int v_Mw_7])), (a14, .inl (cI, 16, .inl g_Mw_left)), (a15, .inl (cI, 16, .inl g_Mw_right)), (a16, .inl (cI, 16, .inl g_Mw_year)), (a17, .inl (cI, 16, .inl g_Mw_trader)), (a18, .inl (cI, 16, .inl g_Mw_how)), (a19, .inl (cI, 16, .inl g_Mw_told)), (a20, .inl (cI, 16, .inl g_Mw_untold)), (a2, .inr (7, [.int v_M_0, .int v_M_1, .int v_M_2, .ref a3, .ref a4, .int v_M_5, .ref a5, .ref a6, .ref a7, .ref a8, .ref a9, .ref a10, .ref a11, .ref a12, .ref a13])), (a5, .inl (cJ, 6, .inr (.inl g_M_name))), (a0, .inr (2, [.ref a1, .ref a2, .int v_rd_2, .int v_rd_3, .int v_rd_4, .int v_rd_5, .int h20, .int h21])), (a1, .inr (5, [.ref a21, .int v_tp_1, .int h22, .int h23, .int h24, .long y25, .int h26])), (a21, .inl (cB, 1300, .inl g_tp_bytes))] := hD
      have hq19 := hp
      refine lv_if_ne (tgt := 50) hx hb dX2_readWeigh_45 (by decide) (fun c27 => ?_) (fun c27 => ?_)
      · have dc27 : r19.toInt ≠ 0 := fa_ne c27
        refine lv_aload_n hx hb dX2_readWeigh_50 rfl (lv_at hl 1 rfl) ?_
        refine lv_iload_n hx hb dX2_readWeigh_51 rfl (lv_at hl 0 rfl) ?_
        refine k_ci (wr := [(a12, .inr (8, [.ref a14, .ref a15, .ref a16, .ref a17, .ref a18, .ref a19, .ref a20, .int v_Mw_7])), (a14, .inl (cI, 16, .inl g_Mw_left)), (a15, .inl (cI, 16, .inl g_Mw_right)), (a16, .inl (cI, 16, .inl g_Mw_year)), (a17, .inl (cI, 16, .inl g_Mw_trader)), (a18, .inl (cI, 16, .inl g_Mw_how)), (a19, .inl (cI, 16, .inl g_Mw_told)), (a20, .inl (cI, 16, .inl g_Mw_untold))]) (k_rV hC hN hZ hS hA hK hP hD (c69_X2_takePile l G cI cJ cB cZ a0 a1 a2 a21 a3 a4 a5 a6 a7 a8 a9 a10 a11 a12 a13 r8 v_rd_2 v_rd_3 v_rd_4 v_rd_5 h20 h21 v_tp_1 h22 h23 h24 y25 h26 v_M_0 v_M_1 v_M_2 v_M_5 g_M_name g_tp_bytes hv_0 hv_1 hv_2 hv_3 hv_12 hv_13 (by omega) (by omega) hv_4 hv_5 hv_6 hv_7 hv_8 hv_9 hT_g_tp_bytes) [10, 11, 8, 9, 12] rfl (by decide +kernel) mi_X2_takePile in_X2_takePile se_X2_takePile wm_X2_209 2 10 rfl rfl rfl hl.1 rfl rfl (Nat.le_of_ble_eq_true rfl) ⟨(Nat.le_of_ble_eq_true rfl), (Nat.le_of_ble_eq_true rfl)⟩ dX2_readWeigh_52 ⟨(Nat.le_of_ble_eq_true rfl), (Nat.le_of_ble_eq_true rfl)⟩) hP hD hS hA [10, 11, 8, 9, 12] [0, 1, 2, 3, 4, 5, 6, 7] rfl rfl (by decide +kernel) (by decide +kernel) (fun r28 u28 H locs hp hP hD hS => ?_)
        obtain ⟨h29, h30, h31, h32, h33, y34, h35⟩ := u28
        have hp : ((-1) ≤ r28.toInt ∧ r28.toInt ≤ 63 ∧ 0 ≤ h31.toInt ∧ h31.toInt ≤ 1300) := hp
        have hP : va_P G cl [(a12, .inr (8, [.ref a14, .ref a15, .ref a16, .ref a17, .ref a18, .ref a19, .ref a20, .int v_Mw_7])), (a14, .inl (cI, 16, .inl g_Mw_left)), (a15, .inl (cI, 16, .inl g_Mw_right)), (a16, .inl (cI, 16, .inl g_Mw_year)), (a17, .inl (cI, 16, .inl g_Mw_trader)), (a18, .inl (cI, 16, .inl g_Mw_how)), (a19, .inl (cI, 16, .inl g_Mw_told)), (a20, .inl (cI, 16, .inl g_Mw_untold)), (a0, .inr (2, [.ref a1, .ref a2, .int v_rd_2, .int v_rd_3, .int v_rd_4, .int v_rd_5, .int h29, .int h30])), (a1, .inr (5, [.ref a21, .int v_tp_1, .int h31, .int h32, .int h33, .long y34, .int h35])), (a2, .inr (7, [.int v_M_0, .int v_M_1, .int v_M_2, .ref a3, .ref a4, .int v_M_5, .ref a5, .ref a6, .ref a7, .ref a8, .ref a9, .ref a10, .ref a11, .ref a12, .ref a13])), (a5, .inl (cJ, 6, .inr (.inl g_M_name))), (a21, .inl (cB, 1300, .inl g_tp_bytes))] H := hP
        have hD : va_D A [(a12, .inr (8, [.ref a14, .ref a15, .ref a16, .ref a17, .ref a18, .ref a19, .ref a20, .int v_Mw_7])), (a14, .inl (cI, 16, .inl g_Mw_left)), (a15, .inl (cI, 16, .inl g_Mw_right)), (a16, .inl (cI, 16, .inl g_Mw_year)), (a17, .inl (cI, 16, .inl g_Mw_trader)), (a18, .inl (cI, 16, .inl g_Mw_how)), (a19, .inl (cI, 16, .inl g_Mw_told)), (a20, .inl (cI, 16, .inl g_Mw_untold)), (a0, .inr (2, [.ref a1, .ref a2, .int v_rd_2, .int v_rd_3, .int v_rd_4, .int v_rd_5, .int h29, .int h30])), (a1, .inr (5, [.ref a21, .int v_tp_1, .int h31, .int h32, .int h33, .long y34, .int h35])), (a2, .inr (7, [.int v_M_0, .int v_M_1, .int v_M_2, .ref a3, .ref a4, .int v_M_5, .ref a5, .ref a6, .ref a7, .ref a8, .ref a9, .ref a10, .ref a11, .ref a12, .ref a13])), (a5, .inl (cJ, 6, .inr (.inl g_M_name))), (a21, .inl (cB, 1300, .inl g_tp_bytes))] := hD
        have hq28 := hp
        refine lv_istore_n (lv' := [(2, .int r28), (1, .int r8), (0, .ref a0)]) hx hb dX2_readWeigh_55 rfl hl (by decide) rfl (fun ls hl => ?_)
        refine lv_iload_n hx hb dX2_readWeigh_56 rfl (lv_at hl 0 rfl) ?_
        refine lv_if_lt (tgt := 80) hx hb dX2_readWeigh_57 (by decide) (fun c36 => ?_) (fun c36 => ?_)
        · have dc36 : r28.toInt < 0 := (fa_lt _ _).mp c36
          refine lv_iconst (v := 0) hx hb dX2_readWeigh_80 (by decide) ?_
          have l_l37 : (0 : Int32).toInt = 0 := rfl
          rw [← hQm]
          exact k_zret hC hr hlk hK hP hD hS (v_rd_2, h29, h30, v_Mw_7, h31, h32, h33, y34, h35, g_Mw_left, g_Mw_right, g_Mw_year, g_Mw_trader, g_Mw_how, g_Mw_told, g_Mw_untold) [8, 10, 0, 9, 12, 11, 1, 2, 3, 4, 5, 6, 7] rfl (by decide +kernel) rfl (show 0 ≤ (0 : Int32).toInt ∧ (0 : Int32).toInt ≤ 1 ∧ 0 ≤ v_Mw_7.toInt ∧ v_Mw_7.toInt ≤ 16 ∧ 0 ≤ h31.toInt ∧ h31.toInt ≤ 1300 from by omega) (Nat.le_of_ble_eq_true rfl) (Nat.le_of_ble_eq_true rfl) dX2_readWeigh_81
        · have dc36 : 0 ≤ r28.toInt := fa_nlt c36
          refine lv_aload_n hx hb dX2_readWeigh_60 rfl (lv_at hl 2 rfl) ?_
          refine lv_ldc2 (v := 26990) hx hb hown (hts _ kl_X2_172) dX2_readWeigh_61 ?_
          refine k_ci (wr := [(a12, .inr (8, [.ref a14, .ref a15, .ref a16, .ref a17, .ref a18, .ref a19, .ref a20, .int v_Mw_7])), (a14, .inl (cI, 16, .inl g_Mw_left)), (a15, .inl (cI, 16, .inl g_Mw_right)), (a16, .inl (cI, 16, .inl g_Mw_year)), (a17, .inl (cI, 16, .inl g_Mw_trader)), (a18, .inl (cI, 16, .inl g_Mw_how)), (a19, .inl (cI, 16, .inl g_Mw_told)), (a20, .inl (cI, 16, .inl g_Mw_untold)), (a2, .inr (7, [.int v_M_0, .int v_M_1, .int v_M_2, .ref a3, .ref a4, .int v_M_5, .ref a5, .ref a6, .ref a7, .ref a8, .ref a9, .ref a10, .ref a11, .ref a12, .ref a13])), (a5, .inl (cJ, 6, .inr (.inl g_M_name)))]) (k_rV hC hN hZ hS hA hK hP hD (c49_X2_takeWord l G cI cJ cB cZ a0 a1 a2 a21 26990 v_rd_2 v_rd_3 v_rd_4 v_rd_5 h29 h30 v_tp_1 h31 h32 h33 y34 h35 g_tp_bytes hv_0 hv_1 hv_2 hv_3 hv_12 hv_13 (by omega) (by omega) hT_g_tp_bytes) [8, 9, 12] rfl (by decide +kernel) mi_X2_takeWord in_X2_takeWord se_X2_takeWord wm_X2_113 2 8 rfl rfl rfl hl.1 rfl rfl (Nat.le_of_ble_eq_true rfl) ⟨(Nat.le_of_ble_eq_true rfl), (Nat.le_of_ble_eq_true rfl)⟩ dX2_readWeigh_64 ⟨(Nat.le_of_ble_eq_true rfl), (Nat.le_of_ble_eq_true rfl)⟩) hP hD hS hA [8, 9, 12] [0, 1, 2, 3, 4, 5, 6, 7, 10, 11] rfl rfl (by decide +kernel) (by decide +kernel) (fun r38 u38 H locs hp hP hD hS => ?_)
          obtain ⟨h39, h40, h41, h42, h43, y44, h45⟩ := u38
          have hp : (0 ≤ r38.toInt ∧ r38.toInt ≤ 1 ∧ 0 ≤ h41.toInt ∧ h41.toInt ≤ 1300) := hp
          have hP : va_P G cl [(a12, .inr (8, [.ref a14, .ref a15, .ref a16, .ref a17, .ref a18, .ref a19, .ref a20, .int v_Mw_7])), (a14, .inl (cI, 16, .inl g_Mw_left)), (a15, .inl (cI, 16, .inl g_Mw_right)), (a16, .inl (cI, 16, .inl g_Mw_year)), (a17, .inl (cI, 16, .inl g_Mw_trader)), (a18, .inl (cI, 16, .inl g_Mw_how)), (a19, .inl (cI, 16, .inl g_Mw_told)), (a20, .inl (cI, 16, .inl g_Mw_untold)), (a2, .inr (7, [.int v_M_0, .int v_M_1, .int v_M_2, .ref a3, .ref a4, .int v_M_5, .ref a5, .ref a6, .ref a7, .ref a8, .ref a9, .ref a10, .ref a11, .ref a12, .ref a13])), (a5, .inl (cJ, 6, .inr (.inl g_M_name))), (a0, .inr (2, [.ref a1, .ref a2, .int v_rd_2, .int v_rd_3, .int v_rd_4, .int v_rd_5, .int h39, .int h40])), (a1, .inr (5, [.ref a21, .int v_tp_1, .int h41, .int h42, .int h43, .long y44, .int h45])), (a21, .inl (cB, 1300, .inl g_tp_bytes))] H := hP
          have hD : va_D A [(a12, .inr (8, [.ref a14, .ref a15, .ref a16, .ref a17, .ref a18, .ref a19, .ref a20, .int v_Mw_7])), (a14, .inl (cI, 16, .inl g_Mw_left)), (a15, .inl (cI, 16, .inl g_Mw_right)), (a16, .inl (cI, 16, .inl g_Mw_year)), (a17, .inl (cI, 16, .inl g_Mw_trader)), (a18, .inl (cI, 16, .inl g_Mw_how)), (a19, .inl (cI, 16, .inl g_Mw_told)), (a20, .inl (cI, 16, .inl g_Mw_untold)), (a2, .inr (7, [.int v_M_0, .int v_M_1, .int v_M_2, .ref a3, .ref a4, .int v_M_5, .ref a5, .ref a6, .ref a7, .ref a8, .ref a9, .ref a10, .ref a11, .ref a12, .ref a13])), (a5, .inl (cJ, 6, .inr (.inl g_M_name))), (a0, .inr (2, [.ref a1, .ref a2, .int v_rd_2, .int v_rd_3, .int v_rd_4, .int v_rd_5, .int h39, .int h40])), (a1, .inr (5, [.ref a21, .int v_tp_1, .int h41, .int h42, .int h43, .long y44, .int h45])), (a21, .inl (cB, 1300, .inl g_tp_bytes))] := hD
          have hq38 := hp
          refine lv_if_eq (tgt := 80) hx hb dX2_readWeigh_67 (by decide) (fun c46 => ?_) (fun c46 => ?_)
          · have dc46 : r38.toInt = 0 := (fa_eq _ _).mp c46
            refine lv_iconst (v := 0) hx hb dX2_readWeigh_80 (by decide) ?_
            have l_l47 : (0 : Int32).toInt = 0 := rfl
            rw [← hQm]
            exact k_zret hC hr hlk hK hP hD hS (v_rd_2, h39, h40, v_Mw_7, h41, h42, h43, y44, h45, g_Mw_left, g_Mw_right, g_Mw_year, g_Mw_trader, g_Mw_how, g_Mw_told, g_Mw_untold) [10, 8, 0, 11, 12, 9, 1, 2, 3, 4, 5, 6, 7] rfl (by decide +kernel) rfl (show 0 ≤ (0 : Int32).toInt ∧ (0 : Int32).toInt ≤ 1 ∧ 0 ≤ v_Mw_7.toInt ∧ v_Mw_7.toInt ≤ 16 ∧ 0 ≤ h41.toInt ∧ h41.toInt ≤ 1300 from by omega) (Nat.le_of_ble_eq_true rfl) (Nat.le_of_ble_eq_true rfl) dX2_readWeigh_81
          · have dc46 : r38.toInt ≠ 0 := fa_ne c46
            refine lv_aload_n hx hb dX2_readWeigh_70 rfl (lv_at hl 2 rfl) ?_
            refine lv_iconst (v := 0) hx hb dX2_readWeigh_71 (by decide) ?_
            refine lv_bipush (v := 9) hx hb dX2_readWeigh_72 (by decide) ?_
            refine k_ci (wr := [(a12, .inr (8, [.ref a14, .ref a15, .ref a16, .ref a17, .ref a18, .ref a19, .ref a20, .int v_Mw_7])), (a14, .inl (cI, 16, .inl g_Mw_left)), (a15, .inl (cI, 16, .inl g_Mw_right)), (a16, .inl (cI, 16, .inl g_Mw_year)), (a17, .inl (cI, 16, .inl g_Mw_trader)), (a18, .inl (cI, 16, .inl g_Mw_how)), (a19, .inl (cI, 16, .inl g_Mw_told)), (a20, .inl (cI, 16, .inl g_Mw_untold)), (a2, .inr (7, [.int v_M_0, .int v_M_1, .int v_M_2, .ref a3, .ref a4, .int v_M_5, .ref a5, .ref a6, .ref a7, .ref a8, .ref a9, .ref a10, .ref a11, .ref a12, .ref a13])), (a5, .inl (cJ, 6, .inr (.inl g_M_name)))]) (k_rV hC hN hZ hS hA hK hP hD (c53_X2_takeNumber l G cI cJ cB cZ a0 a1 a2 a21 v_rd_2 v_rd_3 v_rd_4 v_rd_5 h39 h40 v_tp_1 h41 h42 h43 y44 h45 g_tp_bytes hv_0 hv_1 hv_2 hv_3 hv_12 hv_13 (by omega) (by omega) hT_g_tp_bytes) [10, 11, 12] rfl (by decide +kernel) mi_X2_takeNumber in_X2_takeNumber se_X2_takeNumber wm_X2_107 2 10 rfl rfl rfl hl.1 rfl rfl (Nat.le_of_ble_eq_true rfl) ⟨(Nat.le_of_ble_eq_true rfl), (Nat.le_of_ble_eq_true rfl)⟩ dX2_readWeigh_74 ⟨(Nat.le_of_ble_eq_true rfl), (Nat.le_of_ble_eq_true rfl)⟩) hP hD hS hA [10, 11, 12] [0, 1, 2, 3, 4, 5, 6, 7, 8, 9] rfl rfl (by decide +kernel) (by decide +kernel) (fun r48 u48 H locs hp hP hD hS => ?_)
            obtain ⟨h49, h50, h51, h52, h53, h54, y55, h56⟩ := u48
            have hP : va_P G cl [(a12, .inr (8, [.ref a14, .ref a15, .ref a16, .ref a17, .ref a18, .ref a19, .ref a20, .int v_Mw_7])), (a14, .inl (cI, 16, .inl g_Mw_left)), (a15, .inl (cI, 16, .inl g_Mw_right)), (a16, .inl (cI, 16, .inl g_Mw_year)), (a17, .inl (cI, 16, .inl g_Mw_trader)), (a18, .inl (cI, 16, .inl g_Mw_how)), (a19, .inl (cI, 16, .inl g_Mw_told)), (a20, .inl (cI, 16, .inl g_Mw_untold)), (a2, .inr (7, [.int v_M_0, .int v_M_1, .int v_M_2, .ref a3, .ref a4, .int v_M_5, .ref a5, .ref a6, .ref a7, .ref a8, .ref a9, .ref a10, .ref a11, .ref a12, .ref a13])), (a5, .inl (cJ, 6, .inr (.inl g_M_name))), (a0, .inr (2, [.ref a1, .ref a2, .int h49, .int v_rd_3, .int v_rd_4, .int v_rd_5, .int h50, .int h51])), (a1, .inr (5, [.ref a21, .int v_tp_1, .int h52, .int h53, .int h54, .long y55, .int h56])), (a21, .inl (cB, 1300, .inl g_tp_bytes))] H := hP
            have hD : va_D A [(a12, .inr (8, [.ref a14, .ref a15, .ref a16, .ref a17, .ref a18, .ref a19, .ref a20, .int v_Mw_7])), (a14, .inl (cI, 16, .inl g_Mw_left)), (a15, .inl (cI, 16, .inl g_Mw_right)), (a16, .inl (cI, 16, .inl g_Mw_year)), (a17, .inl (cI, 16, .inl g_Mw_trader)), (a18, .inl (cI, 16, .inl g_Mw_how)), (a19, .inl (cI, 16, .inl g_Mw_told)), (a20, .inl (cI, 16, .inl g_Mw_untold)), (a2, .inr (7, [.int v_M_0, .int v_M_1, .int v_M_2, .ref a3, .ref a4, .int v_M_5, .ref a5, .ref a6, .ref a7, .ref a8, .ref a9, .ref a10, .ref a11, .ref a12, .ref a13])), (a5, .inl (cJ, 6, .inr (.inl g_M_name))), (a0, .inr (2, [.ref a1, .ref a2, .int h49, .int v_rd_3, .int v_rd_4, .int v_rd_5, .int h50, .int h51])), (a1, .inr (5, [.ref a21, .int v_tp_1, .int h52, .int h53, .int h54, .long y55, .int h56])), (a21, .inl (cB, 1300, .inl g_tp_bytes))] := hD
            rcases (show (r48 = 0 ∧ (0 ≤ h52.toInt ∧ h52.toInt ≤ 1300)) ∨ (r48 = 1 ∧ (0 ≤ h49.toInt ∧ h49.toInt ≤ 9 ∧ 0 ≤ h52.toInt ∧ h52.toInt ≤ 1300 ∧ 0 ≤ h53.toInt ∧ h53.toInt ≤ 1300 ∧ 0 ≤ h54.toInt ∧ h54.toInt ≤ 4)) from hp) with ⟨rfl, hq48⟩ | ⟨rfl, hq48⟩
            · clear hp
              have l_48 : (0 : Int32).toInt = 0 := rfl
              refine lv_if_ne (tgt := 82) hx hb dX2_readWeigh_77 (by decide) (fun c_ => absurd (by decide +kernel) c_) (fun _ => ?_)
              refine lv_iconst (v := 0) hx hb dX2_readWeigh_80 (by decide) ?_
              have l_l57 : (0 : Int32).toInt = 0 := rfl
              rw [← hQm]
              exact k_zret hC hr hlk hK hP hD hS (h49, h50, h51, v_Mw_7, h52, h53, h54, y55, h56, g_Mw_left, g_Mw_right, g_Mw_year, g_Mw_trader, g_Mw_how, g_Mw_told, g_Mw_untold) [10, 8, 0, 11, 12, 9, 1, 2, 3, 4, 5, 6, 7] rfl (by decide +kernel) rfl (show 0 ≤ (0 : Int32).toInt ∧ (0 : Int32).toInt ≤ 1 ∧ 0 ≤ v_Mw_7.toInt ∧ v_Mw_7.toInt ≤ 16 ∧ 0 ≤ h52.toInt ∧ h52.toInt ≤ 1300 from by omega) (Nat.le_of_ble_eq_true rfl) (Nat.le_of_ble_eq_true rfl) dX2_readWeigh_81
            · clear hp
              have l_48 : (1 : Int32).toInt = 1 := rfl
              refine lv_if_ne (tgt := 82) hx hb dX2_readWeigh_77 (by decide) (fun _ => ?_) (fun c_ => absurd c_ (by decide +kernel))
              refine lv_aload_n hx hb dX2_readWeigh_82 rfl (lv_at hl 2 rfl) ?_
              refine k_get hC hK hP iX2 10 2 wf_X2_25 rfl (by decide) rfl rfl dX2_readWeigh_83 ?_
              refine lv_istore_n (lv' := [(3, .int h49), (2, .int r28), (1, .int r8), (0, .ref a0)]) hx hb dX2_readWeigh_86 rfl hl (by decide) rfl (fun ls hl => ?_)
              refine lv_aload_n hx hb dX2_readWeigh_87 rfl (lv_at hl 3 rfl) ?_
              refine lv_ldc2 (v := 25209) hx hb hown (hts _ kl_X2_215) dX2_readWeigh_88 ?_
              refine k_ci (wr := [(a12, .inr (8, [.ref a14, .ref a15, .ref a16, .ref a17, .ref a18, .ref a19, .ref a20, .int v_Mw_7])), (a14, .inl (cI, 16, .inl g_Mw_left)), (a15, .inl (cI, 16, .inl g_Mw_right)), (a16, .inl (cI, 16, .inl g_Mw_year)), (a17, .inl (cI, 16, .inl g_Mw_trader)), (a18, .inl (cI, 16, .inl g_Mw_how)), (a19, .inl (cI, 16, .inl g_Mw_told)), (a20, .inl (cI, 16, .inl g_Mw_untold)), (a2, .inr (7, [.int v_M_0, .int v_M_1, .int v_M_2, .ref a3, .ref a4, .int v_M_5, .ref a5, .ref a6, .ref a7, .ref a8, .ref a9, .ref a10, .ref a11, .ref a12, .ref a13])), (a5, .inl (cJ, 6, .inr (.inl g_M_name)))]) (k_rV hC hN hZ hS hA hK hP hD (c49_X2_takeWord l G cI cJ cB cZ a0 a1 a2 a21 25209 h49 v_rd_3 v_rd_4 v_rd_5 h50 h51 v_tp_1 h52 h53 h54 y55 h56 g_tp_bytes hv_0 hv_1 hv_2 hv_3 hv_12 hv_13 (by omega) (by omega) hT_g_tp_bytes) [10, 11, 12] rfl (by decide +kernel) mi_X2_takeWord in_X2_takeWord se_X2_takeWord wm_X2_113 2 10 rfl rfl rfl hl.1 rfl rfl (Nat.le_of_ble_eq_true rfl) ⟨(Nat.le_of_ble_eq_true rfl), (Nat.le_of_ble_eq_true rfl)⟩ dX2_readWeigh_91 ⟨(Nat.le_of_ble_eq_true rfl), (Nat.le_of_ble_eq_true rfl)⟩) hP hD hS hA [10, 11, 12] [0, 1, 2, 3, 4, 5, 6, 7, 8, 9] rfl rfl (by decide +kernel) (by decide +kernel) (fun r58 u58 H locs hp hP hD hS => ?_)
              obtain ⟨h59, h60, h61, h62, h63, y64, h65⟩ := u58
              have hp : (0 ≤ r58.toInt ∧ r58.toInt ≤ 1 ∧ 0 ≤ h61.toInt ∧ h61.toInt ≤ 1300) := hp
              have hP : va_P G cl [(a12, .inr (8, [.ref a14, .ref a15, .ref a16, .ref a17, .ref a18, .ref a19, .ref a20, .int v_Mw_7])), (a14, .inl (cI, 16, .inl g_Mw_left)), (a15, .inl (cI, 16, .inl g_Mw_right)), (a16, .inl (cI, 16, .inl g_Mw_year)), (a17, .inl (cI, 16, .inl g_Mw_trader)), (a18, .inl (cI, 16, .inl g_Mw_how)), (a19, .inl (cI, 16, .inl g_Mw_told)), (a20, .inl (cI, 16, .inl g_Mw_untold)), (a2, .inr (7, [.int v_M_0, .int v_M_1, .int v_M_2, .ref a3, .ref a4, .int v_M_5, .ref a5, .ref a6, .ref a7, .ref a8, .ref a9, .ref a10, .ref a11, .ref a12, .ref a13])), (a5, .inl (cJ, 6, .inr (.inl g_M_name))), (a0, .inr (2, [.ref a1, .ref a2, .int h49, .int v_rd_3, .int v_rd_4, .int v_rd_5, .int h59, .int h60])), (a1, .inr (5, [.ref a21, .int v_tp_1, .int h61, .int h62, .int h63, .long y64, .int h65])), (a21, .inl (cB, 1300, .inl g_tp_bytes))] H := hP
              have hD : va_D A [(a12, .inr (8, [.ref a14, .ref a15, .ref a16, .ref a17, .ref a18, .ref a19, .ref a20, .int v_Mw_7])), (a14, .inl (cI, 16, .inl g_Mw_left)), (a15, .inl (cI, 16, .inl g_Mw_right)), (a16, .inl (cI, 16, .inl g_Mw_year)), (a17, .inl (cI, 16, .inl g_Mw_trader)), (a18, .inl (cI, 16, .inl g_Mw_how)), (a19, .inl (cI, 16, .inl g_Mw_told)), (a20, .inl (cI, 16, .inl g_Mw_untold)), (a2, .inr (7, [.int v_M_0, .int v_M_1, .int v_M_2, .ref a3, .ref a4, .int v_M_5, .ref a5, .ref a6, .ref a7, .ref a8, .ref a9, .ref a10, .ref a11, .ref a12, .ref a13])), (a5, .inl (cJ, 6, .inr (.inl g_M_name))), (a0, .inr (2, [.ref a1, .ref a2, .int h49, .int v_rd_3, .int v_rd_4, .int v_rd_5, .int h59, .int h60])), (a1, .inr (5, [.ref a21, .int v_tp_1, .int h61, .int h62, .int h63, .long y64, .int h65])), (a21, .inl (cB, 1300, .inl g_tp_bytes))] := hD
              have hq58 := hp
              refine lv_if_eq (tgt := 107) hx hb dX2_readWeigh_94 (by decide) (fun c66 => ?_) (fun c66 => ?_)
              · have dc66 : r58.toInt = 0 := (fa_eq _ _).mp c66
                refine lv_iconst (v := 0) hx hb dX2_readWeigh_107 (by decide) ?_
                have l_l67 : (0 : Int32).toInt = 0 := rfl
                rw [← hQm]
                exact k_zret hC hr hlk hK hP hD hS (h49, h59, h60, v_Mw_7, h61, h62, h63, y64, h65, g_Mw_left, g_Mw_right, g_Mw_year, g_Mw_trader, g_Mw_how, g_Mw_told, g_Mw_untold) [10, 8, 0, 11, 12, 9, 1, 2, 3, 4, 5, 6, 7] rfl (by decide +kernel) rfl (show 0 ≤ (0 : Int32).toInt ∧ (0 : Int32).toInt ≤ 1 ∧ 0 ≤ v_Mw_7.toInt ∧ v_Mw_7.toInt ≤ 16 ∧ 0 ≤ h61.toInt ∧ h61.toInt ≤ 1300 from by omega) (Nat.le_of_ble_eq_true rfl) (Nat.le_of_ble_eq_true rfl) dX2_readWeigh_108
              · have dc66 : r58.toInt ≠ 0 := fa_ne c66
                refine lv_aload_n hx hb dX2_readWeigh_97 rfl (lv_at hl 3 rfl) ?_
                refine lv_iconst (v := 0) hx hb dX2_readWeigh_98 (by decide) ?_
                refine lv_bipush (v := 9) hx hb dX2_readWeigh_99 (by decide) ?_
                refine k_ci (wr := [(a12, .inr (8, [.ref a14, .ref a15, .ref a16, .ref a17, .ref a18, .ref a19, .ref a20, .int v_Mw_7])), (a14, .inl (cI, 16, .inl g_Mw_left)), (a15, .inl (cI, 16, .inl g_Mw_right)), (a16, .inl (cI, 16, .inl g_Mw_year)), (a17, .inl (cI, 16, .inl g_Mw_trader)), (a18, .inl (cI, 16, .inl g_Mw_how)), (a19, .inl (cI, 16, .inl g_Mw_told)), (a20, .inl (cI, 16, .inl g_Mw_untold)), (a2, .inr (7, [.int v_M_0, .int v_M_1, .int v_M_2, .ref a3, .ref a4, .int v_M_5, .ref a5, .ref a6, .ref a7, .ref a8, .ref a9, .ref a10, .ref a11, .ref a12, .ref a13])), (a5, .inl (cJ, 6, .inr (.inl g_M_name)))]) (k_rV hC hN hZ hS hA hK hP hD (c53_X2_takeNumber l G cI cJ cB cZ a0 a1 a2 a21 h49 v_rd_3 v_rd_4 v_rd_5 h59 h60 v_tp_1 h61 h62 h63 y64 h65 g_tp_bytes hv_0 hv_1 hv_2 hv_3 hv_12 hv_13 (by omega) (by omega) hT_g_tp_bytes) [10, 11, 12] rfl (by decide +kernel) mi_X2_takeNumber in_X2_takeNumber se_X2_takeNumber wm_X2_107 2 10 rfl rfl rfl hl.1 rfl rfl (Nat.le_of_ble_eq_true rfl) ⟨(Nat.le_of_ble_eq_true rfl), (Nat.le_of_ble_eq_true rfl)⟩ dX2_readWeigh_101 ⟨(Nat.le_of_ble_eq_true rfl), (Nat.le_of_ble_eq_true rfl)⟩) hP hD hS hA [10, 11, 12] [0, 1, 2, 3, 4, 5, 6, 7, 8, 9] rfl rfl (by decide +kernel) (by decide +kernel) (fun r68 u68 H locs hp hP hD hS => ?_)
                obtain ⟨h69, h70, h71, h72, h73, h74, y75, h76⟩ := u68
                have hP : va_P G cl [(a12, .inr (8, [.ref a14, .ref a15, .ref a16, .ref a17, .ref a18, .ref a19, .ref a20, .int v_Mw_7])), (a14, .inl (cI, 16, .inl g_Mw_left)), (a15, .inl (cI, 16, .inl g_Mw_right)), (a16, .inl (cI, 16, .inl g_Mw_year)), (a17, .inl (cI, 16, .inl g_Mw_trader)), (a18, .inl (cI, 16, .inl g_Mw_how)), (a19, .inl (cI, 16, .inl g_Mw_told)), (a20, .inl (cI, 16, .inl g_Mw_untold)), (a2, .inr (7, [.int v_M_0, .int v_M_1, .int v_M_2, .ref a3, .ref a4, .int v_M_5, .ref a5, .ref a6, .ref a7, .ref a8, .ref a9, .ref a10, .ref a11, .ref a12, .ref a13])), (a5, .inl (cJ, 6, .inr (.inl g_M_name))), (a0, .inr (2, [.ref a1, .ref a2, .int h69, .int v_rd_3, .int v_rd_4, .int v_rd_5, .int h70, .int h71])), (a1, .inr (5, [.ref a21, .int v_tp_1, .int h72, .int h73, .int h74, .long y75, .int h76])), (a21, .inl (cB, 1300, .inl g_tp_bytes))] H := hP
                have hD : va_D A [(a12, .inr (8, [.ref a14, .ref a15, .ref a16, .ref a17, .ref a18, .ref a19, .ref a20, .int v_Mw_7])), (a14, .inl (cI, 16, .inl g_Mw_left)), (a15, .inl (cI, 16, .inl g_Mw_right)), (a16, .inl (cI, 16, .inl g_Mw_year)), (a17, .inl (cI, 16, .inl g_Mw_trader)), (a18, .inl (cI, 16, .inl g_Mw_how)), (a19, .inl (cI, 16, .inl g_Mw_told)), (a20, .inl (cI, 16, .inl g_Mw_untold)), (a2, .inr (7, [.int v_M_0, .int v_M_1, .int v_M_2, .ref a3, .ref a4, .int v_M_5, .ref a5, .ref a6, .ref a7, .ref a8, .ref a9, .ref a10, .ref a11, .ref a12, .ref a13])), (a5, .inl (cJ, 6, .inr (.inl g_M_name))), (a0, .inr (2, [.ref a1, .ref a2, .int h69, .int v_rd_3, .int v_rd_4, .int v_rd_5, .int h70, .int h71])), (a1, .inr (5, [.ref a21, .int v_tp_1, .int h72, .int h73, .int h74, .long y75, .int h76])), (a21, .inl (cB, 1300, .inl g_tp_bytes))] := hD
                rcases (show (r68 = 0 ∧ (0 ≤ h72.toInt ∧ h72.toInt ≤ 1300)) ∨ (r68 = 1 ∧ (0 ≤ h69.toInt ∧ h69.toInt ≤ 9 ∧ 0 ≤ h72.toInt ∧ h72.toInt ≤ 1300 ∧ 0 ≤ h73.toInt ∧ h73.toInt ≤ 1300 ∧ 0 ≤ h74.toInt ∧ h74.toInt ≤ 4)) from hp) with ⟨rfl, hq68⟩ | ⟨rfl, hq68⟩
                · clear hp
                  have l_68 : (0 : Int32).toInt = 0 := rfl
                  refine lv_if_ne (tgt := 109) hx hb dX2_readWeigh_104 (by decide) (fun c_ => absurd (by decide +kernel) c_) (fun _ => ?_)
                  refine lv_iconst (v := 0) hx hb dX2_readWeigh_107 (by decide) ?_
                  have l_l77 : (0 : Int32).toInt = 0 := rfl
                  rw [← hQm]
                  exact k_zret hC hr hlk hK hP hD hS (h69, h70, h71, v_Mw_7, h72, h73, h74, y75, h76, g_Mw_left, g_Mw_right, g_Mw_year, g_Mw_trader, g_Mw_how, g_Mw_told, g_Mw_untold) [10, 8, 0, 11, 12, 9, 1, 2, 3, 4, 5, 6, 7] rfl (by decide +kernel) rfl (show 0 ≤ (0 : Int32).toInt ∧ (0 : Int32).toInt ≤ 1 ∧ 0 ≤ v_Mw_7.toInt ∧ v_Mw_7.toInt ≤ 16 ∧ 0 ≤ h72.toInt ∧ h72.toInt ≤ 1300 from by omega) (Nat.le_of_ble_eq_true rfl) (Nat.le_of_ble_eq_true rfl) dX2_readWeigh_108
                · clear hp
                  have l_68 : (1 : Int32).toInt = 1 := rfl
                  refine lv_if_ne (tgt := 109) hx hb dX2_readWeigh_104 (by decide) (fun _ => ?_) (fun c_ => absurd c_ (by decide +kernel))
                  refine lv_aload_n hx hb dX2_readWeigh_109 rfl (lv_at hl 3 rfl) ?_
                  refine k_get hC hK hP iX2 10 2 wf_X2_25 rfl (by decide) rfl rfl dX2_readWeigh_110 ?_
                  refine lv_istore (lv' := [(4, .int h69), (3, .int h49), (2, .int r28), (1, .int r8), (0, .ref a0)]) hx hb dX2_readWeigh_113 hl (by decide) rfl (fun ls hl => ?_)
                  refine lv_aload_n hx hb dX2_readWeigh_115 rfl (lv_at hl 4 rfl) ?_
                  refine k_ci (wr := [(a12, .inr (8, [.ref a14, .ref a15, .ref a16, .ref a17, .ref a18, .ref a19, .ref a20, .int v_Mw_7])), (a14, .inl (cI, 16, .inl g_Mw_left)), (a15, .inl (cI, 16, .inl g_Mw_right)), (a16, .inl (cI, 16, .inl g_Mw_year)), (a17, .inl (cI, 16, .inl g_Mw_trader)), (a18, .inl (cI, 16, .inl g_Mw_how)), (a19, .inl (cI, 16, .inl g_Mw_told)), (a20, .inl (cI, 16, .inl g_Mw_untold)), (a2, .inr (7, [.int v_M_0, .int v_M_1, .int v_M_2, .ref a3, .ref a4, .int v_M_5, .ref a5, .ref a6, .ref a7, .ref a8, .ref a9, .ref a10, .ref a11, .ref a12, .ref a13])), (a5, .inl (cJ, 6, .inr (.inl g_M_name))), (a21, .inl (cB, 1300, .inl g_tp_bytes))]) (k_rV hC hN hZ hS hA hK hP hD (c70_X2_verdictHere l G cI cJ cB cZ a0 a1 a2 a21 h69 v_rd_3 v_rd_4 v_rd_5 h70 h71 v_tp_1 h72 h73 h74 y75 h76 hv_0 hv_1 hv_2 hv_3 hv_12 hv_13 (by omega) (by omega)) [10, 11] rfl (by decide +kernel) mi_X2_verdictHere in_X2_verdictHere se_X2_verdictHere wm_X2_217 2 10 rfl rfl rfl hl.1 rfl rfl (Nat.le_of_ble_eq_true rfl) ⟨(Nat.le_of_ble_eq_true rfl), (Nat.le_of_ble_eq_true rfl)⟩ dX2_readWeigh_116 ⟨(Nat.le_of_ble_eq_true rfl), (Nat.le_of_ble_eq_true rfl)⟩) hP hD hS hA [10, 11] [0, 1, 2, 3, 4, 5, 6, 7, 8, 9, 12] rfl rfl (by decide +kernel) (by decide +kernel) (fun r78 u78 H locs hp hP hD hS => ?_)
                  have hp : ((-1) ≤ r78.toInt ∧ r78.toInt ≤ 2) := hp
                  have hP : va_P G cl [(a12, .inr (8, [.ref a14, .ref a15, .ref a16, .ref a17, .ref a18, .ref a19, .ref a20, .int v_Mw_7])), (a14, .inl (cI, 16, .inl g_Mw_left)), (a15, .inl (cI, 16, .inl g_Mw_right)), (a16, .inl (cI, 16, .inl g_Mw_year)), (a17, .inl (cI, 16, .inl g_Mw_trader)), (a18, .inl (cI, 16, .inl g_Mw_how)), (a19, .inl (cI, 16, .inl g_Mw_told)), (a20, .inl (cI, 16, .inl g_Mw_untold)), (a2, .inr (7, [.int v_M_0, .int v_M_1, .int v_M_2, .ref a3, .ref a4, .int v_M_5, .ref a5, .ref a6, .ref a7, .ref a8, .ref a9, .ref a10, .ref a11, .ref a12, .ref a13])), (a5, .inl (cJ, 6, .inr (.inl g_M_name))), (a21, .inl (cB, 1300, .inl g_tp_bytes)), (a0, .inr (2, [.ref a1, .ref a2, .int h69, .int v_rd_3, .int v_rd_4, .int v_rd_5, .int h70, .int h71])), (a1, .inr (5, [.ref a21, .int v_tp_1, .int h72, .int h73, .int h74, .long y75, .int h76]))] H := hP
                  have hD : va_D A [(a12, .inr (8, [.ref a14, .ref a15, .ref a16, .ref a17, .ref a18, .ref a19, .ref a20, .int v_Mw_7])), (a14, .inl (cI, 16, .inl g_Mw_left)), (a15, .inl (cI, 16, .inl g_Mw_right)), (a16, .inl (cI, 16, .inl g_Mw_year)), (a17, .inl (cI, 16, .inl g_Mw_trader)), (a18, .inl (cI, 16, .inl g_Mw_how)), (a19, .inl (cI, 16, .inl g_Mw_told)), (a20, .inl (cI, 16, .inl g_Mw_untold)), (a2, .inr (7, [.int v_M_0, .int v_M_1, .int v_M_2, .ref a3, .ref a4, .int v_M_5, .ref a5, .ref a6, .ref a7, .ref a8, .ref a9, .ref a10, .ref a11, .ref a12, .ref a13])), (a5, .inl (cJ, 6, .inr (.inl g_M_name))), (a21, .inl (cB, 1300, .inl g_tp_bytes)), (a0, .inr (2, [.ref a1, .ref a2, .int h69, .int v_rd_3, .int v_rd_4, .int v_rd_5, .int h70, .int h71])), (a1, .inr (5, [.ref a21, .int v_tp_1, .int h72, .int h73, .int h74, .long y75, .int h76]))] := hD
                  have hq78 := hp
                  refine lv_istore (lv' := [(5, .int r78), (4, .int h69), (3, .int h49), (2, .int r28), (1, .int r8), (0, .ref a0)]) hx hb dX2_readWeigh_119 hl (by decide) rfl (fun ls hl => ?_)
                  refine lv_iload hx hb dX2_readWeigh_121 (lv_at hl 0 rfl) ?_
                  refine lv_if_ge (tgt := 132) hx hb dX2_readWeigh_123 (by decide) (fun c79 => ?_) (fun c79 => ?_)
                  · have dc79 : 0 ≤ r78.toInt := (fa_le _ _).mp c79
                    refine lv_aload_n hx hb dX2_readWeigh_132 rfl (lv_at hl 5 rfl) ?_
                    refine k_get hC hK hP iX2 11 0 wf_X2_12 rfl (by decide) rfl rfl dX2_readWeigh_133 ?_
                    refine k_cv (wr := [(a12, .inr (8, [.ref a14, .ref a15, .ref a16, .ref a17, .ref a18, .ref a19, .ref a20, .int v_Mw_7])), (a14, .inl (cI, 16, .inl g_Mw_left)), (a15, .inl (cI, 16, .inl g_Mw_right)), (a16, .inl (cI, 16, .inl g_Mw_year)), (a17, .inl (cI, 16, .inl g_Mw_trader)), (a18, .inl (cI, 16, .inl g_Mw_how)), (a19, .inl (cI, 16, .inl g_Mw_told)), (a20, .inl (cI, 16, .inl g_Mw_untold)), (a2, .inr (7, [.int v_M_0, .int v_M_1, .int v_M_2, .ref a3, .ref a4, .int v_M_5, .ref a5, .ref a6, .ref a7, .ref a8, .ref a9, .ref a10, .ref a11, .ref a12, .ref a13])), (a5, .inl (cJ, 6, .inr (.inl g_M_name))), (a0, .inr (2, [.ref a1, .ref a2, .int h69, .int v_rd_3, .int v_rd_4, .int v_rd_5, .int h70, .int h71]))]) (k_rV hC hN hZ hS hA hK hP hD (c20_X5_advance l G cI cJ cB cZ a1 a21 v_tp_1 h72 h73 h74 y75 h76 g_tp_bytes hv_12 hv_13 (by omega) (by omega) hT_g_tp_bytes) [12, 10] rfl (by decide +kernel) mi_X5_advance in_X5_advance se_X5_advance wm_X2_104 5 12 rfl rfl rfl hl.1 rfl rfl (Nat.le_of_ble_eq_true rfl) ⟨(Nat.le_of_ble_eq_true rfl), (Nat.le_of_ble_eq_true rfl)⟩ dX2_readWeigh_136 ⟨(Nat.le_of_ble_eq_true rfl), (Nat.le_of_ble_eq_true rfl)⟩) hP hD hS hA [12, 10] [0, 1, 2, 3, 4, 5, 6, 7, 8, 9, 11] rfl rfl (by decide +kernel) (by decide +kernel) (fun u80 H locs hp hP hD hS => ?_)
                    obtain ⟨h81, h82, h83, y84, h85⟩ := u80
                    have hp : (0 ≤ h81.toInt ∧ h81.toInt ≤ 1300 ∧ 0 ≤ h82.toInt ∧ h82.toInt ≤ 1300 ∧ 0 ≤ h83.toInt ∧ h83.toInt ≤ 4) := hp
                    have hP : va_P G cl [(a12, .inr (8, [.ref a14, .ref a15, .ref a16, .ref a17, .ref a18, .ref a19, .ref a20, .int v_Mw_7])), (a14, .inl (cI, 16, .inl g_Mw_left)), (a15, .inl (cI, 16, .inl g_Mw_right)), (a16, .inl (cI, 16, .inl g_Mw_year)), (a17, .inl (cI, 16, .inl g_Mw_trader)), (a18, .inl (cI, 16, .inl g_Mw_how)), (a19, .inl (cI, 16, .inl g_Mw_told)), (a20, .inl (cI, 16, .inl g_Mw_untold)), (a2, .inr (7, [.int v_M_0, .int v_M_1, .int v_M_2, .ref a3, .ref a4, .int v_M_5, .ref a5, .ref a6, .ref a7, .ref a8, .ref a9, .ref a10, .ref a11, .ref a12, .ref a13])), (a5, .inl (cJ, 6, .inr (.inl g_M_name))), (a0, .inr (2, [.ref a1, .ref a2, .int h69, .int v_rd_3, .int v_rd_4, .int v_rd_5, .int h70, .int h71])), (a1, .inr (5, [.ref a21, .int v_tp_1, .int h81, .int h82, .int h83, .long y84, .int h85])), (a21, .inl (cB, 1300, .inl g_tp_bytes))] H := hP
                    have hD : va_D A [(a12, .inr (8, [.ref a14, .ref a15, .ref a16, .ref a17, .ref a18, .ref a19, .ref a20, .int v_Mw_7])), (a14, .inl (cI, 16, .inl g_Mw_left)), (a15, .inl (cI, 16, .inl g_Mw_right)), (a16, .inl (cI, 16, .inl g_Mw_year)), (a17, .inl (cI, 16, .inl g_Mw_trader)), (a18, .inl (cI, 16, .inl g_Mw_how)), (a19, .inl (cI, 16, .inl g_Mw_told)), (a20, .inl (cI, 16, .inl g_Mw_untold)), (a2, .inr (7, [.int v_M_0, .int v_M_1, .int v_M_2, .ref a3, .ref a4, .int v_M_5, .ref a5, .ref a6, .ref a7, .ref a8, .ref a9, .ref a10, .ref a11, .ref a12, .ref a13])), (a5, .inl (cJ, 6, .inr (.inl g_M_name))), (a0, .inr (2, [.ref a1, .ref a2, .int h69, .int v_rd_3, .int v_rd_4, .int v_rd_5, .int h70, .int h71])), (a1, .inr (5, [.ref a21, .int v_tp_1, .int h81, .int h82, .int h83, .long y84, .int h85])), (a21, .inl (cB, 1300, .inl g_tp_bytes))] := hD
                    have hq80 := hp
                    refine lv_aload_n hx hb dX2_readWeigh_139 rfl (lv_at hl 5 rfl) ?_
                    refine k_get hC hK hP iX2 10 1 wf_X2_21 rfl (by decide) rfl rfl dX2_readWeigh_140 ?_
                    refine k_getN hC hN hK hP iX7 8 13 wf_X2_200 rfl (by decide) rfl rfl dX2_readWeigh_143 ?_
                    refine lv_iload_n hx hb dX2_readWeigh_146 rfl (lv_at hl 4 rfl) ?_
                    refine lv_iload_n hx hb dX2_readWeigh_147 rfl (lv_at hl 3 rfl) ?_
                    refine lv_iload_n hx hb dX2_readWeigh_148 rfl (lv_at hl 2 rfl) ?_
                    refine lv_iload hx hb dX2_readWeigh_149 (lv_at hl 1 rfl) ?_
                    refine lv_iload hx hb dX2_readWeigh_151 (lv_at hl 0 rfl) ?_
                    refine k_cv (wr := [(a2, .inr (7, [.int v_M_0, .int v_M_1, .int v_M_2, .ref a3, .ref a4, .int v_M_5, .ref a5, .ref a6, .ref a7, .ref a8, .ref a9, .ref a10, .ref a11, .ref a12, .ref a13])), (a5, .inl (cJ, 6, .inr (.inl g_M_name))), (a0, .inr (2, [.ref a1, .ref a2, .int h69, .int v_rd_3, .int v_rd_4, .int v_rd_5, .int h70, .int h71])), (a1, .inr (5, [.ref a21, .int v_tp_1, .int h81, .int h82, .int h83, .long y84, .int h85])), (a21, .inl (cB, 1300, .inl g_tp_bytes))]) (k_rV hC hN hZ hS hA hK hP hD (c71_X8_put l G cI cJ cB cZ a12 a14 a15 a16 a17 a18 a19 a20 r8 r28 h49 h69 r78 v_Mw_7 g_Mw_left g_Mw_right g_Mw_year g_Mw_trader g_Mw_how g_Mw_told g_Mw_untold hv_10 hv_11) [0, 1, 2, 3, 4, 5, 6, 7] rfl (by decide +kernel) mi_X8_put in_X8_put se_X8_put wm_X2_220 8 0 rfl rfl rfl hl.1 rfl rfl (Nat.le_of_ble_eq_true rfl) ⟨(Nat.le_of_ble_eq_true rfl), (Nat.le_of_ble_eq_true rfl)⟩ dX2_readWeigh_153 ⟨(Nat.le_of_ble_eq_true rfl), (Nat.le_of_ble_eq_true rfl)⟩) hP hD hS hA [0, 1, 2, 3, 4, 5, 6, 7] [8, 9, 10, 11, 12] rfl rfl (by decide +kernel) (by decide +kernel) (fun u86 H locs hp hP hD hS => ?_)
                    obtain ⟨h87, f88, f89, f90, f91, f92, f93, f94⟩ := u86
                    have hp : (1 ≤ h87.toInt ∧ h87.toInt ≤ 16) := hp
                    have hP : va_P G cl [(a2, .inr (7, [.int v_M_0, .int v_M_1, .int v_M_2, .ref a3, .ref a4, .int v_M_5, .ref a5, .ref a6, .ref a7, .ref a8, .ref a9, .ref a10, .ref a11, .ref a12, .ref a13])), (a5, .inl (cJ, 6, .inr (.inl g_M_name))), (a0, .inr (2, [.ref a1, .ref a2, .int h69, .int v_rd_3, .int v_rd_4, .int v_rd_5, .int h70, .int h71])), (a1, .inr (5, [.ref a21, .int v_tp_1, .int h81, .int h82, .int h83, .long y84, .int h85])), (a21, .inl (cB, 1300, .inl g_tp_bytes)), (a12, .inr (8, [.ref a14, .ref a15, .ref a16, .ref a17, .ref a18, .ref a19, .ref a20, .int h87])), (a14, .inl (cI, 16, .inl f88)), (a15, .inl (cI, 16, .inl f89)), (a16, .inl (cI, 16, .inl f90)), (a17, .inl (cI, 16, .inl f91)), (a18, .inl (cI, 16, .inl f92)), (a19, .inl (cI, 16, .inl f93)), (a20, .inl (cI, 16, .inl f94))] H := hP
                    have hD : va_D A [(a2, .inr (7, [.int v_M_0, .int v_M_1, .int v_M_2, .ref a3, .ref a4, .int v_M_5, .ref a5, .ref a6, .ref a7, .ref a8, .ref a9, .ref a10, .ref a11, .ref a12, .ref a13])), (a5, .inl (cJ, 6, .inr (.inl g_M_name))), (a0, .inr (2, [.ref a1, .ref a2, .int h69, .int v_rd_3, .int v_rd_4, .int v_rd_5, .int h70, .int h71])), (a1, .inr (5, [.ref a21, .int v_tp_1, .int h81, .int h82, .int h83, .long y84, .int h85])), (a21, .inl (cB, 1300, .inl g_tp_bytes)), (a12, .inr (8, [.ref a14, .ref a15, .ref a16, .ref a17, .ref a18, .ref a19, .ref a20, .int h87])), (a14, .inl (cI, 16, .inl f88)), (a15, .inl (cI, 16, .inl f89)), (a16, .inl (cI, 16, .inl f90)), (a17, .inl (cI, 16, .inl f91)), (a18, .inl (cI, 16, .inl f92)), (a19, .inl (cI, 16, .inl f93)), (a20, .inl (cI, 16, .inl f94))] := hD
                    have hq86 := hp
                    refine lv_aload_n hx hb dX2_readWeigh_156 rfl (lv_at hl 5 rfl) ?_
                    refine k_ci (wr := [(a2, .inr (7, [.int v_M_0, .int v_M_1, .int v_M_2, .ref a3, .ref a4, .int v_M_5, .ref a5, .ref a6, .ref a7, .ref a8, .ref a9, .ref a10, .ref a11, .ref a12, .ref a13])), (a5, .inl (cJ, 6, .inr (.inl g_M_name))), (a12, .inr (8, [.ref a14, .ref a15, .ref a16, .ref a17, .ref a18, .ref a19, .ref a20, .int h87])), (a14, .inl (cI, 16, .inl f88)), (a15, .inl (cI, 16, .inl f89)), (a16, .inl (cI, 16, .inl f90)), (a17, .inl (cI, 16, .inl f91)), (a18, .inl (cI, 16, .inl f92)), (a19, .inl (cI, 16, .inl f93)), (a20, .inl (cI, 16, .inl f94))]) (k_rV hC hN hZ hS hA hK hP hD (c51_X2_takeSign l G cI cJ cB cZ a0 a1 a2 a21 h69 v_rd_3 v_rd_4 v_rd_5 h70 h71 v_tp_1 h81 h82 h83 y84 h85 g_tp_bytes hv_0 hv_1 hv_2 hv_3 hv_12 hv_13 (by omega) (by omega) hT_g_tp_bytes) [2, 3, 4] rfl (by decide +kernel) mi_X2_takeSign in_X2_takeSign se_X2_takeSign wm_X2_128 2 2 rfl rfl rfl hl.1 rfl rfl (Nat.le_of_ble_eq_true rfl) ⟨(Nat.le_of_ble_eq_true rfl), (Nat.le_of_ble_eq_true rfl)⟩ dX2_readWeigh_157 ⟨(Nat.le_of_ble_eq_true rfl), (Nat.le_of_ble_eq_true rfl)⟩) hP hD hS hA [2, 3, 4] [0, 1, 5, 6, 7, 8, 9, 10, 11, 12] rfl rfl (by decide +kernel) (by decide +kernel) (fun r95 u95 H locs hp hP hD hS => ?_)
                    obtain ⟨h96, h97, h98, h99, h100, y101, h102⟩ := u95
                    have hp : (0 ≤ r95.toInt ∧ r95.toInt ≤ 1 ∧ 0 ≤ h98.toInt ∧ h98.toInt ≤ 1300) := hp
                    have hP : va_P G cl [(a2, .inr (7, [.int v_M_0, .int v_M_1, .int v_M_2, .ref a3, .ref a4, .int v_M_5, .ref a5, .ref a6, .ref a7, .ref a8, .ref a9, .ref a10, .ref a11, .ref a12, .ref a13])), (a5, .inl (cJ, 6, .inr (.inl g_M_name))), (a12, .inr (8, [.ref a14, .ref a15, .ref a16, .ref a17, .ref a18, .ref a19, .ref a20, .int h87])), (a14, .inl (cI, 16, .inl f88)), (a15, .inl (cI, 16, .inl f89)), (a16, .inl (cI, 16, .inl f90)), (a17, .inl (cI, 16, .inl f91)), (a18, .inl (cI, 16, .inl f92)), (a19, .inl (cI, 16, .inl f93)), (a20, .inl (cI, 16, .inl f94)), (a0, .inr (2, [.ref a1, .ref a2, .int h69, .int v_rd_3, .int v_rd_4, .int v_rd_5, .int h96, .int h97])), (a1, .inr (5, [.ref a21, .int v_tp_1, .int h98, .int h99, .int h100, .long y101, .int h102])), (a21, .inl (cB, 1300, .inl g_tp_bytes))] H := hP
                    have hD : va_D A [(a2, .inr (7, [.int v_M_0, .int v_M_1, .int v_M_2, .ref a3, .ref a4, .int v_M_5, .ref a5, .ref a6, .ref a7, .ref a8, .ref a9, .ref a10, .ref a11, .ref a12, .ref a13])), (a5, .inl (cJ, 6, .inr (.inl g_M_name))), (a12, .inr (8, [.ref a14, .ref a15, .ref a16, .ref a17, .ref a18, .ref a19, .ref a20, .int h87])), (a14, .inl (cI, 16, .inl f88)), (a15, .inl (cI, 16, .inl f89)), (a16, .inl (cI, 16, .inl f90)), (a17, .inl (cI, 16, .inl f91)), (a18, .inl (cI, 16, .inl f92)), (a19, .inl (cI, 16, .inl f93)), (a20, .inl (cI, 16, .inl f94)), (a0, .inr (2, [.ref a1, .ref a2, .int h69, .int v_rd_3, .int v_rd_4, .int v_rd_5, .int h96, .int h97])), (a1, .inr (5, [.ref a21, .int v_tp_1, .int h98, .int h99, .int h100, .long y101, .int h102])), (a21, .inl (cB, 1300, .inl g_tp_bytes))] := hD
                    have hq95 := hp
                    rw [← hQm]
                    exact k_zret hC hr hlk hK hP hD hS (h69, h96, h97, h87, h98, h99, h100, y101, h102, f88, f89, f90, f91, f92, f93, f94) [10, 0, 2, 11, 12, 1, 3, 4, 5, 6, 7, 8, 9] rfl (by decide +kernel) (nar_bool (by omega) (by omega)) (show 0 ≤ r95.toInt ∧ r95.toInt ≤ 1 ∧ 0 ≤ h87.toInt ∧ h87.toInt ≤ 16 ∧ 0 ≤ h98.toInt ∧ h98.toInt ≤ 1300 from by omega) (Nat.le_of_ble_eq_true rfl) (Nat.le_of_ble_eq_true rfl) dX2_readWeigh_160
                  · have dc79 : r78.toInt < 0 := fa_nle c79
                    refine lv_aload_n hx hb dX2_readWeigh_126 rfl (lv_at hl 5 rfl) ?_
                    refine lv_iconst (v := 2) hx hb dX2_readWeigh_127 (by decide) ?_
                    have l_l104 : (2 : Int32).toInt = 2 := rfl
                    refine k_ci (wr := [(a12, .inr (8, [.ref a14, .ref a15, .ref a16, .ref a17, .ref a18, .ref a19, .ref a20, .int v_Mw_7])), (a14, .inl (cI, 16, .inl g_Mw_left)), (a15, .inl (cI, 16, .inl g_Mw_right)), (a16, .inl (cI, 16, .inl g_Mw_year)), (a17, .inl (cI, 16, .inl g_Mw_trader)), (a18, .inl (cI, 16, .inl g_Mw_how)), (a19, .inl (cI, 16, .inl g_Mw_told)), (a20, .inl (cI, 16, .inl g_Mw_untold)), (a2, .inr (7, [.int v_M_0, .int v_M_1, .int v_M_2, .ref a3, .ref a4, .int v_M_5, .ref a5, .ref a6, .ref a7, .ref a8, .ref a9, .ref a10, .ref a11, .ref a12, .ref a13])), (a5, .inl (cJ, 6, .inr (.inl g_M_name))), (a21, .inl (cB, 1300, .inl g_tp_bytes))]) (k_rV hC hN hZ hS hA hK hP hD (c47_X2_refuse l G cI cJ cB cZ a0 a1 a2 a21 2 h69 v_rd_3 v_rd_4 v_rd_5 h70 h71 v_tp_1 h72 h73 h74 y75 h76 hv_0 hv_1 hv_2 hv_3 hv_12 hv_13 (by omega) (by omega)) [11, 12] rfl (by decide +kernel) mi_X2_refuse in_X2_refuse se_X2_refuse wm_X2_100 2 11 rfl rfl rfl hl.1 rfl rfl (Nat.le_of_ble_eq_true rfl) ⟨(Nat.le_of_ble_eq_true rfl), (Nat.le_of_ble_eq_true rfl)⟩ dX2_readWeigh_128 ⟨(Nat.le_of_ble_eq_true rfl), (Nat.le_of_ble_eq_true rfl)⟩) hP hD hS hA [11, 12] [0, 1, 2, 3, 4, 5, 6, 7, 8, 9, 10] rfl rfl (by decide +kernel) (by decide +kernel) (fun r103 u103 H locs hp hP hD hS => ?_)
                    obtain ⟨h105, h106⟩ := u103
                    have hp : (r103 = 0 ∧ True) := hp
                    obtain rfl : r103 = 0 := hp.1
                    have hP : va_P G cl [(a12, .inr (8, [.ref a14, .ref a15, .ref a16, .ref a17, .ref a18, .ref a19, .ref a20, .int v_Mw_7])), (a14, .inl (cI, 16, .inl g_Mw_left)), (a15, .inl (cI, 16, .inl g_Mw_right)), (a16, .inl (cI, 16, .inl g_Mw_year)), (a17, .inl (cI, 16, .inl g_Mw_trader)), (a18, .inl (cI, 16, .inl g_Mw_how)), (a19, .inl (cI, 16, .inl g_Mw_told)), (a20, .inl (cI, 16, .inl g_Mw_untold)), (a2, .inr (7, [.int v_M_0, .int v_M_1, .int v_M_2, .ref a3, .ref a4, .int v_M_5, .ref a5, .ref a6, .ref a7, .ref a8, .ref a9, .ref a10, .ref a11, .ref a12, .ref a13])), (a5, .inl (cJ, 6, .inr (.inl g_M_name))), (a21, .inl (cB, 1300, .inl g_tp_bytes)), (a0, .inr (2, [.ref a1, .ref a2, .int h69, .int v_rd_3, .int v_rd_4, .int v_rd_5, .int h105, .int h106])), (a1, .inr (5, [.ref a21, .int v_tp_1, .int h72, .int h73, .int h74, .long y75, .int h76]))] H := hP
                    have hD : va_D A [(a12, .inr (8, [.ref a14, .ref a15, .ref a16, .ref a17, .ref a18, .ref a19, .ref a20, .int v_Mw_7])), (a14, .inl (cI, 16, .inl g_Mw_left)), (a15, .inl (cI, 16, .inl g_Mw_right)), (a16, .inl (cI, 16, .inl g_Mw_year)), (a17, .inl (cI, 16, .inl g_Mw_trader)), (a18, .inl (cI, 16, .inl g_Mw_how)), (a19, .inl (cI, 16, .inl g_Mw_told)), (a20, .inl (cI, 16, .inl g_Mw_untold)), (a2, .inr (7, [.int v_M_0, .int v_M_1, .int v_M_2, .ref a3, .ref a4, .int v_M_5, .ref a5, .ref a6, .ref a7, .ref a8, .ref a9, .ref a10, .ref a11, .ref a12, .ref a13])), (a5, .inl (cJ, 6, .inr (.inl g_M_name))), (a21, .inl (cB, 1300, .inl g_tp_bytes)), (a0, .inr (2, [.ref a1, .ref a2, .int h69, .int v_rd_3, .int v_rd_4, .int v_rd_5, .int h105, .int h106])), (a1, .inr (5, [.ref a21, .int v_tp_1, .int h72, .int h73, .int h74, .long y75, .int h76]))] := hD
                    have hq103 := hp
                    have l_l107 : (0 : Int32).toInt = 0 := rfl
                    rw [← hQm]
                    exact k_zret hC hr hlk hK hP hD hS (h69, h105, h106, v_Mw_7, h72, h73, h74, y75, h76, g_Mw_left, g_Mw_right, g_Mw_year, g_Mw_trader, g_Mw_how, g_Mw_told, g_Mw_untold) [11, 8, 0, 12, 10, 9, 1, 2, 3, 4, 5, 6, 7] rfl (by decide +kernel) rfl (show 0 ≤ (0 : Int32).toInt ∧ (0 : Int32).toInt ≤ 1 ∧ 0 ≤ v_Mw_7.toInt ∧ v_Mw_7.toInt ≤ 16 ∧ 0 ≤ h72.toInt ∧ h72.toInt ≤ 1300 from by omega) (Nat.le_of_ble_eq_true rfl) (Nat.le_of_ble_eq_true rfl) dX2_readWeigh_131
      · have dc27 : r19.toInt = 0 := (fa_eq _ _).mp c27
        refine lv_iconst (v := 0) hx hb dX2_readWeigh_48 (by decide) ?_
        have l_l108 : (0 : Int32).toInt = 0 := rfl
        rw [← hQm]
        exact k_zret hC hr hlk hK hP hD hS (v_rd_2, h20, h21, v_Mw_7, h22, h23, h24, y25, h26, g_Mw_left, g_Mw_right, g_Mw_year, g_Mw_trader, g_Mw_how, g_Mw_told, g_Mw_untold) [10, 8, 0, 11, 12, 9, 1, 2, 3, 4, 5, 6, 7] rfl (by decide +kernel) rfl (show 0 ≤ (0 : Int32).toInt ∧ (0 : Int32).toInt ≤ 1 ∧ 0 ≤ v_Mw_7.toInt ∧ v_Mw_7.toInt ≤ 16 ∧ 0 ≤ h22.toInt ∧ h22.toInt ≤ 1300 from by omega) (Nat.le_of_ble_eq_true rfl) (Nat.le_of_ble_eq_true rfl) dX2_readWeigh_49
  · have dc1 : 16 ≤ v_Mw_7.toInt := fa_nlt c1
    refine lv_aload_n hx hb dX2_readWeigh_15 rfl (lv_at hl 0 rfl) ?_
    refine lv_iconst (v := 2) hx hb dX2_readWeigh_16 (by decide) ?_
    have l_l110 : (2 : Int32).toInt = 2 := rfl
    refine k_ci (wr := [(a2, .inr (7, [.int v_M_0, .int v_M_1, .int v_M_2, .ref a3, .ref a4, .int v_M_5, .ref a5, .ref a6, .ref a7, .ref a8, .ref a9, .ref a10, .ref a11, .ref a12, .ref a13])), (a12, .inr (8, [.ref a14, .ref a15, .ref a16, .ref a17, .ref a18, .ref a19, .ref a20, .int v_Mw_7])), (a21, .inl (cB, 1300, .inl g_tp_bytes)), (a5, .inl (cJ, 6, .inr (.inl g_M_name))), (a14, .inl (cI, 16, .inl g_Mw_left)), (a15, .inl (cI, 16, .inl g_Mw_right)), (a16, .inl (cI, 16, .inl g_Mw_year)), (a17, .inl (cI, 16, .inl g_Mw_trader)), (a18, .inl (cI, 16, .inl g_Mw_how)), (a19, .inl (cI, 16, .inl g_Mw_told)), (a20, .inl (cI, 16, .inl g_Mw_untold))]) (k_rV hC hN hZ hS hA hK hP hD (c47_X2_refuse l G cI cJ cB cZ a0 a1 a2 a21 2 v_rd_2 v_rd_3 v_rd_4 v_rd_5 v_rd_6 v_rd_7 v_tp_1 v_tp_2 v_tp_3 v_tp_4 w_tp_5 v_tp_6 hv_0 hv_1 hv_2 hv_3 hv_12 hv_13 hv_14 hv_15) [0, 3] rfl (by decide +kernel) mi_X2_refuse in_X2_refuse se_X2_refuse wm_X2_100 2 0 rfl rfl rfl hl.1 rfl rfl (Nat.le_of_ble_eq_true rfl) ⟨(Nat.le_of_ble_eq_true rfl), (Nat.le_of_ble_eq_true rfl)⟩ dX2_readWeigh_17 ⟨(Nat.le_of_ble_eq_true rfl), (Nat.le_of_ble_eq_true rfl)⟩) hP hD hS hA [0, 3] [1, 2, 4, 5, 6, 7, 8, 9, 10, 11, 12] rfl rfl (by decide +kernel) (by decide +kernel) (fun r109 u109 H locs hp hP hD hS => ?_)
    obtain ⟨h111, h112⟩ := u109
    have hp : (r109 = 0 ∧ True) := hp
    obtain rfl : r109 = 0 := hp.1
    have hP : va_P G cl [(a2, .inr (7, [.int v_M_0, .int v_M_1, .int v_M_2, .ref a3, .ref a4, .int v_M_5, .ref a5, .ref a6, .ref a7, .ref a8, .ref a9, .ref a10, .ref a11, .ref a12, .ref a13])), (a12, .inr (8, [.ref a14, .ref a15, .ref a16, .ref a17, .ref a18, .ref a19, .ref a20, .int v_Mw_7])), (a21, .inl (cB, 1300, .inl g_tp_bytes)), (a5, .inl (cJ, 6, .inr (.inl g_M_name))), (a14, .inl (cI, 16, .inl g_Mw_left)), (a15, .inl (cI, 16, .inl g_Mw_right)), (a16, .inl (cI, 16, .inl g_Mw_year)), (a17, .inl (cI, 16, .inl g_Mw_trader)), (a18, .inl (cI, 16, .inl g_Mw_how)), (a19, .inl (cI, 16, .inl g_Mw_told)), (a20, .inl (cI, 16, .inl g_Mw_untold)), (a0, .inr (2, [.ref a1, .ref a2, .int v_rd_2, .int v_rd_3, .int v_rd_4, .int v_rd_5, .int h111, .int h112])), (a1, .inr (5, [.ref a21, .int v_tp_1, .int v_tp_2, .int v_tp_3, .int v_tp_4, .long w_tp_5, .int v_tp_6]))] H := hP
    have hD : va_D A [(a2, .inr (7, [.int v_M_0, .int v_M_1, .int v_M_2, .ref a3, .ref a4, .int v_M_5, .ref a5, .ref a6, .ref a7, .ref a8, .ref a9, .ref a10, .ref a11, .ref a12, .ref a13])), (a12, .inr (8, [.ref a14, .ref a15, .ref a16, .ref a17, .ref a18, .ref a19, .ref a20, .int v_Mw_7])), (a21, .inl (cB, 1300, .inl g_tp_bytes)), (a5, .inl (cJ, 6, .inr (.inl g_M_name))), (a14, .inl (cI, 16, .inl g_Mw_left)), (a15, .inl (cI, 16, .inl g_Mw_right)), (a16, .inl (cI, 16, .inl g_Mw_year)), (a17, .inl (cI, 16, .inl g_Mw_trader)), (a18, .inl (cI, 16, .inl g_Mw_how)), (a19, .inl (cI, 16, .inl g_Mw_told)), (a20, .inl (cI, 16, .inl g_Mw_untold)), (a0, .inr (2, [.ref a1, .ref a2, .int v_rd_2, .int v_rd_3, .int v_rd_4, .int v_rd_5, .int h111, .int h112])), (a1, .inr (5, [.ref a21, .int v_tp_1, .int v_tp_2, .int v_tp_3, .int v_tp_4, .long w_tp_5, .int v_tp_6]))] := hD
    have hq109 := hp
    have l_l113 : (0 : Int32).toInt = 0 := rfl
    rw [← hQm]
    exact k_zret hC hr hlk hK hP hD hS (v_rd_2, h111, h112, v_Mw_7, v_tp_2, v_tp_3, v_tp_4, w_tp_5, v_tp_6, g_Mw_left, g_Mw_right, g_Mw_year, g_Mw_trader, g_Mw_how, g_Mw_told, g_Mw_untold) [11, 0, 1, 12, 2, 3, 4, 5, 6, 7, 8, 9, 10] rfl (by decide +kernel) rfl (show 0 ≤ (0 : Int32).toInt ∧ (0 : Int32).toInt ≤ 1 ∧ 0 ≤ v_Mw_7.toInt ∧ v_Mw_7.toInt ≤ 16 ∧ 0 ≤ v_tp_2.toInt ∧ v_tp_2.toInt ≤ 1300 from by omega) (Nat.le_of_ble_eq_true rfl) (Nat.le_of_ble_eq_true rfl) dX2_readWeigh_20
set_option maxHeartbeats 4000000 in
set_option maxRecDepth 100000 in
theorem c73_X2_takeNumber (l : Launch) (G : va_G) (cI cJ cB cZ : ClassId) (a0 a1 a2 a3 : Nat) (v_rd_2 : Int32) (v_rd_3 : Int32) (v_rd_4 : Int32) (v_rd_5 : Int32) (v_rd_6 : Int32) (v_rd_7 : Int32) (v_tp_1 : Int32) (v_tp_2 : Int32) (v_tp_3 : Int32) (v_tp_4 : Int32) (w_tp_5 : Int64) (v_tp_6 : Int32) (g_tp_bytes : Nat → Int32) (hv_0 : 0 ≤ v_rd_3.toInt) (hv_1 : v_rd_3.toInt ≤ 1) (hv_2 : 0 ≤ v_rd_4.toInt) (hv_3 : v_rd_4.toInt ≤ 1) (hv_4 : 0 ≤ v_tp_1.toInt) (hv_5 : v_tp_1.toInt ≤ 1300) (hv_6 : 0 ≤ v_tp_2.toInt) (hv_7 : v_tp_2.toInt ≤ 1300) (hT_g_tp_bytes : TA (-128) 127 g_tp_bytes) : Con l G (TY cI cJ cB cZ) yX2_takeNumber cX2_takeNumber 3 (some .boolean) ({ frames := 3, cells := 0, slots := 0, locals := 61 } : Room) [.ref a0, .int 0, .int 99] [(a0, .inr (2, [.ref a1, .ref a2, .int v_rd_2, .int v_rd_3, .int v_rd_4, .int v_rd_5, .int v_rd_6, .int v_rd_7])), (a1, .inr (5, [.ref a3, .int v_tp_1, .int v_tp_2, .int v_tp_3, .int v_tp_4, .long w_tp_5, .int v_tp_6])), (a3, .inl (cB, 1300, .inl g_tp_bytes))] (QI G (TY cI cJ cB cZ) (fun (r : Int32) (u : Int32 × Int32 × Int32 × Int32 × Int32 × Int32 × Int64 × Int32) => (r = 0 ∧ (0 ≤ u.2.2.2.1.toInt ∧ u.2.2.2.1.toInt ≤ 1300)) ∨ (r = 1 ∧ (0 ≤ u.1.toInt ∧ u.1.toInt ≤ 99 ∧ 0 ≤ u.2.2.2.1.toInt ∧ u.2.2.2.1.toInt ≤ 1300 ∧ 0 ≤ u.2.2.2.2.1.toInt ∧ u.2.2.2.2.1.toInt ≤ 1300 ∧ 0 ≤ u.2.2.2.2.2.1.toInt ∧ u.2.2.2.2.2.1.toInt ≤ 4))) (fun u : Int32 × Int32 × Int32 × Int32 × Int32 × Int32 × Int64 × Int32 => [(a0, .inr (2, [.ref a1, .ref a2, .int u.1, .int v_rd_3, .int v_rd_4, .int v_rd_5, .int u.2.1, .int u.2.2.1])), (a1, .inr (5, [.ref a3, .int v_tp_1, .int u.2.2.2.1, .int u.2.2.2.2.1, .int u.2.2.2.2.2.1, .long u.2.2.2.2.2.2.1, .int u.2.2.2.2.2.2.2])), (a3, .inl (cB, 1300, .inl g_tp_bytes))])) := by
  refine k_met (by decide) (Nat.le_of_ble_eq_true rfl) ?_
  intro p e s m below meth c A ls hC hr hlk hnm hN hZ hK hA hP hD hS hl
  have hl : lv_has ls 3 [(0, .ref a0), (1, .int 0), (2, .int 99)] := hl
  generalize hQm : MQ below _ _ s _ _ A = Qm
  generalize (List.toArray _ : Array Value) = args at hC hQm ⊢
  obtain ⟨hx, hb, hml, hown, hts⟩ := id hC
  obtain ⟨H, hH⟩ : ∃ q, q = s.heap := ⟨_, rfl⟩
  obtain ⟨locs, hlo⟩ : ∃ q : List Loc, q = [] := ⟨_, rfl⟩
  have hP : va_P G cl [(a0, .inr (2, [.ref a1, .ref a2, .int v_rd_2, .int v_rd_3, .int v_rd_4, .int v_rd_5, .int v_rd_6, .int v_rd_7])), (a1, .inr (5, [.ref a3, .int v_tp_1, .int v_tp_2, .int v_tp_3, .int v_tp_4, .long w_tp_5, .int v_tp_6])), (a3, .inl (cB, 1300, .inl g_tp_bytes))] H := by rw [hH]; exact hP
  have hS : va_S A s.heap H locs := by rw [hH, hlo]; exact hS
  rw [← hlo]
  rw [← hH]
  refine lv_aload_n hx hb dX2_takeNumber_0 rfl (lv_at hl 0 rfl) ?_
  refine k_get hC hK hP iX2 0 0 wf_X2_12 rfl (by decide) rfl rfl dX2_takeNumber_1 ?_
  refine k_getN hC hN hK hP iX5 1 4 wf_X2_51 rfl (by decide) rfl rfl dX2_takeNumber_4 ?_
  refine lv_iconst (v := 2) hx hb dX2_takeNumber_7 (by decide) ?_
  refine lv_icmp_eq (tgt := 17) hx hb dX2_takeNumber_8 (by decide) (fun c1 => ?_) (fun c1 => ?_)
  · have dc1 : v_tp_4.toInt = 2 := (fa_eq _ _).mp c1; have lbc1_0 := i_lo v_tp_4; have ubc1_0 := i_hi v_tp_4
    refine lv_aload_n hx hb dX2_takeNumber_17 rfl (lv_at hl 0 rfl) ?_
    refine k_get hC hK hP iX2 0 0 wf_X2_12 rfl (by decide) rfl rfl dX2_takeNumber_18 ?_
    refine k_getN hC hN hK hP iX5 1 6 wf_X2_146 rfl (by decide) rfl rfl dX2_takeNumber_21 ?_
    refine lv_iload_n hx hb dX2_takeNumber_24 rfl (lv_at hl 1 rfl) ?_
    refine lv_icmp_lt (tgt := 39) hx hb dX2_takeNumber_25 (by decide) (fun c2 => ?_) (fun c2 => ?_)
    · have dc2 : v_tp_6.toInt < 0 := (fa_lt _ _).mp c2; have lbc2_0 := i_lo v_tp_6; have ubc2_0 := i_hi v_tp_6
      refine lv_aload_n hx hb dX2_takeNumber_39 rfl (lv_at hl 0 rfl) ?_
      refine lv_iconst (v := 4) hx hb dX2_takeNumber_40 (by decide) ?_
      have l_l4 : (4 : Int32).toInt = 4 := rfl
      refine k_ci (wr := [(a3, .inl (cB, 1300, .inl g_tp_bytes))]) (k_rV hC hN hZ hS hA hK hP hD (c47_X2_refuse l G cI cJ cB cZ a0 a1 a2 a3 4 v_rd_2 v_rd_3 v_rd_4 v_rd_5 v_rd_6 v_rd_7 v_tp_1 v_tp_2 v_tp_3 v_tp_4 w_tp_5 v_tp_6 hv_0 hv_1 hv_2 hv_3 hv_4 hv_5 hv_6 hv_7) [0, 1] rfl (by decide +kernel) mi_X2_refuse in_X2_refuse se_X2_refuse wm_X2_100 2 0 rfl rfl rfl hl.1 rfl rfl (Nat.le_of_ble_eq_true rfl) ⟨(Nat.le_of_ble_eq_true rfl), (Nat.le_of_ble_eq_true rfl)⟩ dX2_takeNumber_41 ⟨(Nat.le_of_ble_eq_true rfl), (Nat.le_of_ble_eq_true rfl)⟩) hP hD hS hA [0, 1] [2] rfl rfl (by decide +kernel) (by decide +kernel) (fun r3 u3 H locs hp hP hD hS => ?_)
      obtain ⟨h5, h6⟩ := u3
      have hp : (r3 = 0 ∧ True) := hp
      obtain rfl : r3 = 0 := hp.1
      have hP : va_P G cl [(a3, .inl (cB, 1300, .inl g_tp_bytes)), (a0, .inr (2, [.ref a1, .ref a2, .int v_rd_2, .int v_rd_3, .int v_rd_4, .int v_rd_5, .int h5, .int h6])), (a1, .inr (5, [.ref a3, .int v_tp_1, .int v_tp_2, .int v_tp_3, .int v_tp_4, .long w_tp_5, .int v_tp_6]))] H := hP
      have hD : va_D A [(a3, .inl (cB, 1300, .inl g_tp_bytes)), (a0, .inr (2, [.ref a1, .ref a2, .int v_rd_2, .int v_rd_3, .int v_rd_4, .int v_rd_5, .int h5, .int h6])), (a1, .inr (5, [.ref a3, .int v_tp_1, .int v_tp_2, .int v_tp_3, .int v_tp_4, .long w_tp_5, .int v_tp_6]))] := hD
      have hq3 := hp
      have l_l7 : (0 : Int32).toInt = 0 := rfl
      rw [← hQm]
      exact k_zret hC hr hlk hK hP hD hS (v_rd_2, h5, h6, v_tp_2, v_tp_3, v_tp_4, w_tp_5, v_tp_6) [1, 2, 0] rfl (by decide +kernel) rfl (Or.inl ⟨rfl, (show 0 ≤ v_tp_2.toInt ∧ v_tp_2.toInt ≤ 1300 from by omega)⟩) (Nat.le_of_ble_eq_true rfl) (Nat.le_of_ble_eq_true rfl) dX2_takeNumber_44
    · have dc2 : 0 ≤ v_tp_6.toInt := fa_nlt c2; have lbc2_0 := i_lo v_tp_6; have ubc2_0 := i_hi v_tp_6
      refine lv_aload_n hx hb dX2_takeNumber_28 rfl (lv_at hl 0 rfl) ?_
      refine k_get hC hK hP iX2 0 0 wf_X2_12 rfl (by decide) rfl rfl dX2_takeNumber_29 ?_
      refine k_getN hC hN hK hP iX5 1 6 wf_X2_146 rfl (by decide) rfl rfl dX2_takeNumber_32 ?_
      refine lv_iload_n hx hb dX2_takeNumber_35 rfl (lv_at hl 2 rfl) ?_
      refine lv_icmp_le (tgt := 45) hx hb dX2_takeNumber_36 (by decide) (fun c8 => ?_) (fun c8 => ?_)
      · have dc8 : v_tp_6.toInt ≤ 99 := (fa_le _ _).mp c8; have ubc8_0 := i_hi v_tp_6
        refine lv_aload_n hx hb dX2_takeNumber_45 rfl (lv_at hl 0 rfl) ?_
        refine lv_aload_n hx hb dX2_takeNumber_46 rfl (lv_at hl 0 rfl) ?_
        refine k_get hC hK hP iX2 0 0 wf_X2_12 rfl (by decide) rfl rfl dX2_takeNumber_47 ?_
        refine k_getN hC hN hK hP iX5 1 6 wf_X2_146 rfl (by decide) rfl rfl dX2_takeNumber_50 ?_
        refine k_put hC hK hP hD hS iX2 tyX2_ok nmX2 0 2 wf_X2_25 rfl (by decide) rfl rfl rfl rfl (Nat.le_of_ble_eq_true rfl) dX2_takeNumber_53 (fun H locs hP hD hS => ?_)
        have hP : va_P G cl [(a0, .inr (2, [.ref a1, .ref a2, .int v_tp_6, .int v_rd_3, .int v_rd_4, .int v_rd_5, .int v_rd_6, .int v_rd_7])), (a1, .inr (5, [.ref a3, .int v_tp_1, .int v_tp_2, .int v_tp_3, .int v_tp_4, .long w_tp_5, .int v_tp_6])), (a3, .inl (cB, 1300, .inl g_tp_bytes))] H := hP
        have hD : va_D A [(a0, .inr (2, [.ref a1, .ref a2, .int v_tp_6, .int v_rd_3, .int v_rd_4, .int v_rd_5, .int v_rd_6, .int v_rd_7])), (a1, .inr (5, [.ref a3, .int v_tp_1, .int v_tp_2, .int v_tp_3, .int v_tp_4, .long w_tp_5, .int v_tp_6])), (a3, .inl (cB, 1300, .inl g_tp_bytes))] := hD
        refine lv_aload_n hx hb dX2_takeNumber_56 rfl (lv_at hl 0 rfl) ?_
        refine k_get hC hK hP iX2 0 0 wf_X2_12 rfl (by decide) rfl rfl dX2_takeNumber_57 ?_
        refine k_cv (wr := [(a0, .inr (2, [.ref a1, .ref a2, .int v_tp_6, .int v_rd_3, .int v_rd_4, .int v_rd_5, .int v_rd_6, .int v_rd_7]))]) (k_rV hC hN hZ hS hA hK hP hD (c20_X5_advance l G cI cJ cB cZ a1 a3 v_tp_1 v_tp_2 v_tp_3 v_tp_4 w_tp_5 v_tp_6 g_tp_bytes hv_4 hv_5 hv_6 hv_7 hT_g_tp_bytes) [1, 2] rfl (by decide +kernel) mi_X5_advance in_X5_advance se_X5_advance wm_X2_104 5 1 rfl rfl rfl hl.1 rfl rfl (Nat.le_of_ble_eq_true rfl) ⟨(Nat.le_of_ble_eq_true rfl), (Nat.le_of_ble_eq_true rfl)⟩ dX2_takeNumber_60 ⟨(Nat.le_of_ble_eq_true rfl), (Nat.le_of_ble_eq_true rfl)⟩) hP hD hS hA [1, 2] [0] rfl rfl (by decide +kernel) (by decide +kernel) (fun u9 H locs hp hP hD hS => ?_)
        obtain ⟨h10, h11, h12, y13, h14⟩ := u9
        have hp : (0 ≤ h10.toInt ∧ h10.toInt ≤ 1300 ∧ 0 ≤ h11.toInt ∧ h11.toInt ≤ 1300 ∧ 0 ≤ h12.toInt ∧ h12.toInt ≤ 4) := hp
        have hP : va_P G cl [(a0, .inr (2, [.ref a1, .ref a2, .int v_tp_6, .int v_rd_3, .int v_rd_4, .int v_rd_5, .int v_rd_6, .int v_rd_7])), (a1, .inr (5, [.ref a3, .int v_tp_1, .int h10, .int h11, .int h12, .long y13, .int h14])), (a3, .inl (cB, 1300, .inl g_tp_bytes))] H := hP
        have hD : va_D A [(a0, .inr (2, [.ref a1, .ref a2, .int v_tp_6, .int v_rd_3, .int v_rd_4, .int v_rd_5, .int v_rd_6, .int v_rd_7])), (a1, .inr (5, [.ref a3, .int v_tp_1, .int h10, .int h11, .int h12, .long y13, .int h14])), (a3, .inl (cB, 1300, .inl g_tp_bytes))] := hD
        have hq9 := hp
        refine lv_iconst (v := 1) hx hb dX2_takeNumber_63 (by decide) ?_
        have l_l15 : (1 : Int32).toInt = 1 := rfl
        rw [← hQm]
        exact k_zret hC hr hlk hK hP hD hS (v_tp_6, v_rd_6, v_rd_7, h10, h11, h12, y13, h14) [0, 1, 2] rfl (by decide +kernel) rfl (Or.inr ⟨rfl, (show 0 ≤ v_tp_6.toInt ∧ v_tp_6.toInt ≤ 99 ∧ 0 ≤ h10.toInt ∧ h10.toInt ≤ 1300 ∧ 0 ≤ h11.toInt ∧ h11.toInt ≤ 1300 ∧ 0 ≤ h12.toInt ∧ h12.toInt ≤ 4 from by omega)⟩) (Nat.le_of_ble_eq_true rfl) (Nat.le_of_ble_eq_true rfl) dX2_takeNumber_64
      · have dc8 : 99 < v_tp_6.toInt := fa_nle c8; have ubc8_0 := i_hi v_tp_6
        refine lv_aload_n hx hb dX2_takeNumber_39 rfl (lv_at hl 0 rfl) ?_
        refine lv_iconst (v := 4) hx hb dX2_takeNumber_40 (by decide) ?_
        have l_l17 : (4 : Int32).toInt = 4 := rfl
        refine k_ci (wr := [(a3, .inl (cB, 1300, .inl g_tp_bytes))]) (k_rV hC hN hZ hS hA hK hP hD (c47_X2_refuse l G cI cJ cB cZ a0 a1 a2 a3 4 v_rd_2 v_rd_3 v_rd_4 v_rd_5 v_rd_6 v_rd_7 v_tp_1 v_tp_2 v_tp_3 v_tp_4 w_tp_5 v_tp_6 hv_0 hv_1 hv_2 hv_3 hv_4 hv_5 hv_6 hv_7) [0, 1] rfl (by decide +kernel) mi_X2_refuse in_X2_refuse se_X2_refuse wm_X2_100 2 0 rfl rfl rfl hl.1 rfl rfl (Nat.le_of_ble_eq_true rfl) ⟨(Nat.le_of_ble_eq_true rfl), (Nat.le_of_ble_eq_true rfl)⟩ dX2_takeNumber_41 ⟨(Nat.le_of_ble_eq_true rfl), (Nat.le_of_ble_eq_true rfl)⟩) hP hD hS hA [0, 1] [2] rfl rfl (by decide +kernel) (by decide +kernel) (fun r16 u16 H locs hp hP hD hS => ?_)
        obtain ⟨h18, h19⟩ := u16
        have hp : (r16 = 0 ∧ True) := hp
        obtain rfl : r16 = 0 := hp.1
        have hP : va_P G cl [(a3, .inl (cB, 1300, .inl g_tp_bytes)), (a0, .inr (2, [.ref a1, .ref a2, .int v_rd_2, .int v_rd_3, .int v_rd_4, .int v_rd_5, .int h18, .int h19])), (a1, .inr (5, [.ref a3, .int v_tp_1, .int v_tp_2, .int v_tp_3, .int v_tp_4, .long w_tp_5, .int v_tp_6]))] H := hP
        have hD : va_D A [(a3, .inl (cB, 1300, .inl g_tp_bytes)), (a0, .inr (2, [.ref a1, .ref a2, .int v_rd_2, .int v_rd_3, .int v_rd_4, .int v_rd_5, .int h18, .int h19])), (a1, .inr (5, [.ref a3, .int v_tp_1, .int v_tp_2, .int v_tp_3, .int v_tp_4, .long w_tp_5, .int v_tp_6]))] := hD
        have hq16 := hp
        have l_l20 : (0 : Int32).toInt = 0 := rfl
        rw [← hQm]
        exact k_zret hC hr hlk hK hP hD hS (v_rd_2, h18, h19, v_tp_2, v_tp_3, v_tp_4, w_tp_5, v_tp_6) [1, 2, 0] rfl (by decide +kernel) rfl (Or.inl ⟨rfl, (show 0 ≤ v_tp_2.toInt ∧ v_tp_2.toInt ≤ 1300 from by omega)⟩) (Nat.le_of_ble_eq_true rfl) (Nat.le_of_ble_eq_true rfl) dX2_takeNumber_44
  · have dc1 : v_tp_4.toInt ≠ 2 := fa_ne c1; have lbc1_0 := i_lo v_tp_4; have ubc1_0 := i_hi v_tp_4
    refine lv_aload_n hx hb dX2_takeNumber_11 rfl (lv_at hl 0 rfl) ?_
    refine lv_iconst (v := 2) hx hb dX2_takeNumber_12 (by decide) ?_
    have l_l22 : (2 : Int32).toInt = 2 := rfl
    refine k_ci (wr := [(a3, .inl (cB, 1300, .inl g_tp_bytes))]) (k_rV hC hN hZ hS hA hK hP hD (c47_X2_refuse l G cI cJ cB cZ a0 a1 a2 a3 2 v_rd_2 v_rd_3 v_rd_4 v_rd_5 v_rd_6 v_rd_7 v_tp_1 v_tp_2 v_tp_3 v_tp_4 w_tp_5 v_tp_6 hv_0 hv_1 hv_2 hv_3 hv_4 hv_5 hv_6 hv_7) [0, 1] rfl (by decide +kernel) mi_X2_refuse in_X2_refuse se_X2_refuse wm_X2_100 2 0 rfl rfl rfl hl.1 rfl rfl (Nat.le_of_ble_eq_true rfl) ⟨(Nat.le_of_ble_eq_true rfl), (Nat.le_of_ble_eq_true rfl)⟩ dX2_takeNumber_13 ⟨(Nat.le_of_ble_eq_true rfl), (Nat.le_of_ble_eq_true rfl)⟩) hP hD hS hA [0, 1] [2] rfl rfl (by decide +kernel) (by decide +kernel) (fun r21 u21 H locs hp hP hD hS => ?_)
    obtain ⟨h23, h24⟩ := u21
    have hp : (r21 = 0 ∧ True) := hp
    obtain rfl : r21 = 0 := hp.1
    have hP : va_P G cl [(a3, .inl (cB, 1300, .inl g_tp_bytes)), (a0, .inr (2, [.ref a1, .ref a2, .int v_rd_2, .int v_rd_3, .int v_rd_4, .int v_rd_5, .int h23, .int h24])), (a1, .inr (5, [.ref a3, .int v_tp_1, .int v_tp_2, .int v_tp_3, .int v_tp_4, .long w_tp_5, .int v_tp_6]))] H := hP
    have hD : va_D A [(a3, .inl (cB, 1300, .inl g_tp_bytes)), (a0, .inr (2, [.ref a1, .ref a2, .int v_rd_2, .int v_rd_3, .int v_rd_4, .int v_rd_5, .int h23, .int h24])), (a1, .inr (5, [.ref a3, .int v_tp_1, .int v_tp_2, .int v_tp_3, .int v_tp_4, .long w_tp_5, .int v_tp_6]))] := hD
    have hq21 := hp
    have l_l25 : (0 : Int32).toInt = 0 := rfl
    rw [← hQm]
    exact k_zret hC hr hlk hK hP hD hS (v_rd_2, h23, h24, v_tp_2, v_tp_3, v_tp_4, w_tp_5, v_tp_6) [1, 2, 0] rfl (by decide +kernel) rfl (Or.inl ⟨rfl, (show 0 ≤ v_tp_2.toInt ∧ v_tp_2.toInt ≤ 1300 from by omega)⟩) (Nat.le_of_ble_eq_true rfl) (Nat.le_of_ble_eq_true rfl) dX2_takeNumber_16
theorem dX2_readSale_0 : decode cX2_readSale 0 = .ok (.aload_n 0, 1) := by decide +kernel
theorem dX2_readSale_1 : decode cX2_readSale 1 = .ok (.getfield 21, 3) := by decide +kernel
theorem dX2_readSale_4 : decode cX2_readSale 4 = .ok (.getfield 230, 3) := by decide +kernel
set_option maxRecDepth 100000 in
theorem wf_X2_230 : Cond.fieldLinkNest RX2 230 "StoneTrust$Village" "sales" "LStoneTrust$Sales;" "StoneTrust" ∈ nests := nm_ (List.mem_of_getElem? (i := 264) (by decide +kernel)) rfl
theorem dX2_readSale_7 : decode cX2_readSale 7 = .ok (.getfield 234, 3) := by decide +kernel
set_option maxRecDepth 100000 in
theorem wf_X2_234 : Cond.fieldLinkNest RX2 234 "StoneTrust$Sales" "size" "I" "StoneTrust" ∈ nests := nm_ (List.mem_of_getElem? (i := 203) (by decide +kernel)) rfl
theorem dX2_readSale_10 : decode cX2_readSale 10 = .ok (.bipush 10, 2) := by decide +kernel
theorem dX2_readSale_12 : decode cX2_readSale 12 = .ok (.if_icmp .lt 9, 3) := by decide +kernel
theorem dX2_readSale_21 : decode cX2_readSale 21 = .ok (.aload_n 0, 1) := by decide +kernel
theorem dX2_readSale_22 : decode cX2_readSale 22 = .ok (.getfield 12, 3) := by decide +kernel
theorem dX2_readSale_25 : decode cX2_readSale 25 = .ok (.invokevirtual 104, 3) := by decide +kernel
theorem dX2_readSale_28 : decode cX2_readSale 28 = .ok (.aload_n 0, 1) := by decide +kernel
theorem dX2_readSale_29 : decode cX2_readSale 29 = .ok (.iconst 0, 1) := by decide +kernel
theorem dX2_readSale_30 : decode cX2_readSale 30 = .ok (.invokevirtual 209, 3) := by decide +kernel
theorem dX2_readSale_33 : decode cX2_readSale 33 = .ok (.istore_n 1, 1) := by decide +kernel
theorem dX2_readSale_34 : decode cX2_readSale 34 = .ok (.iload_n 1, 1) := by decide +kernel
theorem dX2_readSale_35 : decode cX2_readSale 35 = .ok (.ifCond .lt 23, 3) := by decide +kernel
theorem dX2_readSale_58 : decode cX2_readSale 58 = .ok (.iconst 0, 1) := by decide +kernel
theorem dX2_readSale_59 : decode cX2_readSale 59 = .ok (.ireturn, 1) := by decide +kernel
theorem dX2_readSale_38 : decode cX2_readSale 38 = .ok (.aload_n 0, 1) := by decide +kernel
theorem dX2_readSale_39 : decode cX2_readSale 39 = .ok (.ldc2_w 172, 3) := by decide +kernel
theorem dX2_readSale_42 : decode cX2_readSale 42 = .ok (.invokevirtual 113, 3) := by decide +kernel
theorem dX2_readSale_45 : decode cX2_readSale 45 = .ok (.ifCond .eq 13, 3) := by decide +kernel
theorem dX2_readSale_48 : decode cX2_readSale 48 = .ok (.aload_n 0, 1) := by decide +kernel
theorem dX2_readSale_49 : decode cX2_readSale 49 = .ok (.iconst 0, 1) := by decide +kernel
theorem dX2_readSale_50 : decode cX2_readSale 50 = .ok (.bipush 9, 2) := by decide +kernel
theorem dX2_readSale_52 : decode cX2_readSale 52 = .ok (.invokevirtual 107, 3) := by decide +kernel
theorem dX2_readSale_55 : decode cX2_readSale 55 = .ok (.ifCond .ne 5, 3) := by decide +kernel
theorem dX2_readSale_60 : decode cX2_readSale 60 = .ok (.aload_n 0, 1) := by decide +kernel
theorem dX2_readSale_61 : decode cX2_readSale 61 = .ok (.getfield 25, 3) := by decide +kernel
theorem dX2_readSale_64 : decode cX2_readSale 64 = .ok (.istore_n 2, 1) := by decide +kernel
theorem dX2_readSale_65 : decode cX2_readSale 65 = .ok (.aload_n 0, 1) := by decide +kernel
theorem dX2_readSale_66 : decode cX2_readSale 66 = .ok (.ldc2_w 215, 3) := by decide +kernel
theorem dX2_readSale_69 : decode cX2_readSale 69 = .ok (.invokevirtual 113, 3) := by decide +kernel
theorem dX2_readSale_72 : decode cX2_readSale 72 = .ok (.ifCond .eq 13, 3) := by decide +kernel
theorem dX2_readSale_85 : decode cX2_readSale 85 = .ok (.iconst 0, 1) := by decide +kernel
theorem dX2_readSale_86 : decode cX2_readSale 86 = .ok (.ireturn, 1) := by decide +kernel
theorem dX2_readSale_75 : decode cX2_readSale 75 = .ok (.aload_n 0, 1) := by decide +kernel
theorem dX2_readSale_76 : decode cX2_readSale 76 = .ok (.iconst 0, 1) := by decide +kernel
theorem dX2_readSale_77 : decode cX2_readSale 77 = .ok (.bipush 9, 2) := by decide +kernel
theorem dX2_readSale_79 : decode cX2_readSale 79 = .ok (.invokevirtual 107, 3) := by decide +kernel
theorem dX2_readSale_82 : decode cX2_readSale 82 = .ok (.ifCond .ne 5, 3) := by decide +kernel
theorem dX2_readSale_87 : decode cX2_readSale 87 = .ok (.aload_n 0, 1) := by decide +kernel
theorem dX2_readSale_88 : decode cX2_readSale 88 = .ok (.getfield 25, 3) := by decide +kernel
theorem dX2_readSale_91 : decode cX2_readSale 91 = .ok (.istore_n 3, 1) := by decide +kernel
theorem dX2_readSale_92 : decode cX2_readSale 92 = .ok (.aload_n 0, 1) := by decide +kernel
theorem dX2_readSale_93 : decode cX2_readSale 93 = .ok (.ldc2_w 237, 3) := by decide +kernel
set_option maxRecDepth 100000 in
theorem kl_X2_237 : Cond.constantLong RX2 237 482955846501 ∈ gw := gm (List.mem_of_getElem? (i := 721) (by decide +kernel)) rfl
theorem dX2_readSale_96 : decode cX2_readSale 96 = .ok (.invokevirtual 113, 3) := by decide +kernel
theorem dX2_readSale_99 : decode cX2_readSale 99 = .ok (.ifCond .eq 13, 3) := by decide +kernel
theorem dX2_readSale_112 : decode cX2_readSale 112 = .ok (.iconst 0, 1) := by decide +kernel
theorem dX2_readSale_113 : decode cX2_readSale 113 = .ok (.ireturn, 1) := by decide +kernel
theorem dX2_readSale_102 : decode cX2_readSale 102 = .ok (.aload_n 0, 1) := by decide +kernel
theorem dX2_readSale_103 : decode cX2_readSale 103 = .ok (.iconst 0, 1) := by decide +kernel
theorem dX2_readSale_104 : decode cX2_readSale 104 = .ok (.bipush 99, 2) := by decide +kernel
theorem dX2_readSale_106 : decode cX2_readSale 106 = .ok (.invokevirtual 107, 3) := by decide +kernel
theorem dX2_readSale_109 : decode cX2_readSale 109 = .ok (.ifCond .ne 5, 3) := by decide +kernel
theorem dX2_readSale_114 : decode cX2_readSale 114 = .ok (.aload_n 0, 1) := by decide +kernel
theorem dX2_readSale_115 : decode cX2_readSale 115 = .ok (.getfield 21, 3) := by decide +kernel
theorem dX2_readSale_118 : decode cX2_readSale 118 = .ok (.getfield 230, 3) := by decide +kernel
theorem dX2_readSale_121 : decode cX2_readSale 121 = .ok (.iload_n 1, 1) := by decide +kernel
theorem dX2_readSale_122 : decode cX2_readSale 122 = .ok (.iload_n 2, 1) := by decide +kernel
theorem dX2_readSale_123 : decode cX2_readSale 123 = .ok (.iload_n 3, 1) := by decide +kernel
theorem dX2_readSale_124 : decode cX2_readSale 124 = .ok (.aload_n 0, 1) := by decide +kernel
theorem dX2_readSale_125 : decode cX2_readSale 125 = .ok (.getfield 25, 3) := by decide +kernel
theorem dX2_readSale_128 : decode cX2_readSale 128 = .ok (.invokevirtual 239, 3) := by decide +kernel
set_option maxRecDepth 100000 in
theorem wm_X2_239 : Cond.methodLink RX2 239 yX3_put ∈ gw := gm (List.mem_of_getElem? (i := 722) (by decide +kernel)) rfl
set_option maxRecDepth 100000 in
theorem mi_X3_put : MI yX3_put cX3_put 5 none 4 := ⟨gm (List.mem_of_getElem? (i := 725) rfl) rfl, gm (List.mem_of_getElem? (i := 116) (by decide +kernel)) rfl, by decide, by decide, by decide +kernel⟩
set_option maxRecDepth 100000 in
theorem in_X3_put : Cond.instanceMethod yX3_put ∈ gw := gm (List.mem_of_getElem? (i := 723) (by decide +kernel)) rfl
set_option maxRecDepth 100000 in
theorem se_X3_put : Cond.selects yX3_put.cls yX3_put yX3_put ∈ gw := gm (List.mem_of_getElem? (i := 724) (by decide +kernel)) rfl
theorem dX2_readSale_131 : decode cX2_readSale 131 = .ok (.aload_n 0, 1) := by decide +kernel
theorem dX2_readSale_132 : decode cX2_readSale 132 = .ok (.invokevirtual 128, 3) := by decide +kernel
theorem dX2_readSale_135 : decode cX2_readSale 135 = .ok (.ireturn, 1) := by decide +kernel
theorem dX2_readSale_15 : decode cX2_readSale 15 = .ok (.aload_n 0, 1) := by decide +kernel
theorem dX2_readSale_16 : decode cX2_readSale 16 = .ok (.iconst 2, 1) := by decide +kernel
theorem dX2_readSale_17 : decode cX2_readSale 17 = .ok (.invokevirtual 100, 3) := by decide +kernel
theorem dX2_readSale_20 : decode cX2_readSale 20 = .ok (.ireturn, 1) := by decide +kernel
set_option maxHeartbeats 4000000 in
set_option maxRecDepth 100000 in
theorem c74_X2_readSale (l : Launch) (G : va_G) (cI cJ cB cZ : ClassId) (a0 a1 a2 a3 a4 a5 a6 a7 a8 a9 a10 a11 a12 a13 a14 a15 a16 a17 a18 : Nat) (v_rd_2 : Int32) (v_rd_3 : Int32) (v_rd_4 : Int32) (v_rd_5 : Int32) (v_rd_6 : Int32) (v_rd_7 : Int32) (v_M_0 : Int32) (v_M_1 : Int32) (v_M_2 : Int32) (v_M_5 : Int32) (v_Ms_4 : Int32) (v_tp_1 : Int32) (v_tp_2 : Int32) (v_tp_3 : Int32) (v_tp_4 : Int32) (w_tp_5 : Int64) (v_tp_6 : Int32) (g_tp_bytes : Nat → Int32) (g_M_name : Nat → Int64) (g_Ms_stones : Nat → Int32) (g_Ms_year : Nat → Int32) (g_Ms_trader : Nat → Int32) (g_Ms_price : Nat → Int32) (hv_0 : 0 ≤ v_rd_3.toInt) (hv_1 : v_rd_3.toInt ≤ 1) (hv_2 : 0 ≤ v_rd_4.toInt) (hv_3 : v_rd_4.toInt ≤ 1) (hv_4 : 0 ≤ v_M_0.toInt) (hv_5 : v_M_0.toInt ≤ 110) (hv_6 : 0 ≤ v_M_1.toInt) (hv_7 : v_M_1.toInt ≤ 110) (hv_8 : 0 ≤ v_M_5.toInt) (hv_9 : v_M_5.toInt ≤ 6) (hv_10 : 0 ≤ v_Ms_4.toInt) (hv_11 : v_Ms_4.toInt ≤ 10) (hv_12 : 0 ≤ v_tp_1.toInt) (hv_13 : v_tp_1.toInt ≤ 1300) (hv_14 : 0 ≤ v_tp_2.toInt) (hv_15 : v_tp_2.toInt ≤ 1300) (hT_g_tp_bytes : TA (-128) 127 g_tp_bytes) : Con l G (TY cI cJ cB cZ) yX2_readSale cX2_readSale 4 (some .boolean) ({ frames := 4, cells := 0, slots := 0, locals := 85 } : Room) [.ref a0] [(a0, .inr (2, [.ref a1, .ref a2, .int v_rd_2, .int v_rd_3, .int v_rd_4, .int v_rd_5, .int v_rd_6, .int v_rd_7])), (a2, .inr (7, [.int v_M_0, .int v_M_1, .int v_M_2, .ref a3, .ref a4, .int v_M_5, .ref a5, .ref a6, .ref a7, .ref a8, .ref a9, .ref a10, .ref a11, .ref a12, .ref a13])), (a13, .inr (3, [.ref a14, .ref a15, .ref a16, .ref a17, .int v_Ms_4])), (a1, .inr (5, [.ref a18, .int v_tp_1, .int v_tp_2, .int v_tp_3, .int v_tp_4, .long w_tp_5, .int v_tp_6])), (a18, .inl (cB, 1300, .inl g_tp_bytes)), (a5, .inl (cJ, 6, .inr (.inl g_M_name))), (a14, .inl (cI, 10, .inl g_Ms_stones)), (a15, .inl (cI, 10, .inl g_Ms_year)), (a16, .inl (cI, 10, .inl g_Ms_trader)), (a17, .inl (cI, 10, .inl g_Ms_price))] (QI G (TY cI cJ cB cZ) (fun (r : Int32) (u : Int32 × Int32 × Int32 × Int32 × Int32 × Int32 × Int32 × Int64 × Int32 × (Nat → Int32) × (Nat → Int32) × (Nat → Int32) × (Nat → Int32)) => (0 ≤ r.toInt ∧ r.toInt ≤ 1 ∧ 0 ≤ u.2.2.2.1.toInt ∧ u.2.2.2.1.toInt ≤ 10 ∧ 0 ≤ u.2.2.2.2.1.toInt ∧ u.2.2.2.2.1.toInt ≤ 1300)) (fun u : Int32 × Int32 × Int32 × Int32 × Int32 × Int32 × Int32 × Int64 × Int32 × (Nat → Int32) × (Nat → Int32) × (Nat → Int32) × (Nat → Int32) => [(a0, .inr (2, [.ref a1, .ref a2, .int u.1, .int v_rd_3, .int v_rd_4, .int v_rd_5, .int u.2.1, .int u.2.2.1])), (a2, .inr (7, [.int v_M_0, .int v_M_1, .int v_M_2, .ref a3, .ref a4, .int v_M_5, .ref a5, .ref a6, .ref a7, .ref a8, .ref a9, .ref a10, .ref a11, .ref a12, .ref a13])), (a13, .inr (3, [.ref a14, .ref a15, .ref a16, .ref a17, .int u.2.2.2.1])), (a1, .inr (5, [.ref a18, .int v_tp_1, .int u.2.2.2.2.1, .int u.2.2.2.2.2.1, .int u.2.2.2.2.2.2.1, .long u.2.2.2.2.2.2.2.1, .int u.2.2.2.2.2.2.2.2.1])), (a18, .inl (cB, 1300, .inl g_tp_bytes)), (a5, .inl (cJ, 6, .inr (.inl g_M_name))), (a14, .inl (cI, 10, .inl u.2.2.2.2.2.2.2.2.2.1)), (a15, .inl (cI, 10, .inl u.2.2.2.2.2.2.2.2.2.2.1)), (a16, .inl (cI, 10, .inl u.2.2.2.2.2.2.2.2.2.2.2.1)), (a17, .inl (cI, 10, .inl u.2.2.2.2.2.2.2.2.2.2.2.2))])) := by
  refine k_met (by decide) (Nat.le_of_ble_eq_true rfl) ?_
  intro p e s m below meth c A ls hC hr hlk hnm hN hZ hK hA hP hD hS hl
  have hl : lv_has ls 4 [(0, .ref a0)] := hl
  generalize hQm : MQ below _ _ s _ _ A = Qm
  generalize (List.toArray _ : Array Value) = args at hC hQm ⊢
  obtain ⟨hx, hb, hml, hown, hts⟩ := id hC
  obtain ⟨H, hH⟩ : ∃ q, q = s.heap := ⟨_, rfl⟩
  obtain ⟨locs, hlo⟩ : ∃ q : List Loc, q = [] := ⟨_, rfl⟩
  have hP : va_P G cl [(a0, .inr (2, [.ref a1, .ref a2, .int v_rd_2, .int v_rd_3, .int v_rd_4, .int v_rd_5, .int v_rd_6, .int v_rd_7])), (a2, .inr (7, [.int v_M_0, .int v_M_1, .int v_M_2, .ref a3, .ref a4, .int v_M_5, .ref a5, .ref a6, .ref a7, .ref a8, .ref a9, .ref a10, .ref a11, .ref a12, .ref a13])), (a13, .inr (3, [.ref a14, .ref a15, .ref a16, .ref a17, .int v_Ms_4])), (a1, .inr (5, [.ref a18, .int v_tp_1, .int v_tp_2, .int v_tp_3, .int v_tp_4, .long w_tp_5, .int v_tp_6])), (a18, .inl (cB, 1300, .inl g_tp_bytes)), (a5, .inl (cJ, 6, .inr (.inl g_M_name))), (a14, .inl (cI, 10, .inl g_Ms_stones)), (a15, .inl (cI, 10, .inl g_Ms_year)), (a16, .inl (cI, 10, .inl g_Ms_trader)), (a17, .inl (cI, 10, .inl g_Ms_price))] H := by rw [hH]; exact hP
  have hS : va_S A s.heap H locs := by rw [hH, hlo]; exact hS
  rw [← hlo]
  rw [← hH]
  refine lv_aload_n hx hb dX2_readSale_0 rfl (lv_at hl 0 rfl) ?_
  refine k_get hC hK hP iX2 0 1 wf_X2_21 rfl (by decide) rfl rfl dX2_readSale_1 ?_
  refine k_getN hC hN hK hP iX7 1 14 wf_X2_230 rfl (by decide) rfl rfl dX2_readSale_4 ?_
  refine k_getN hC hN hK hP iX3 2 4 wf_X2_234 rfl (by decide) rfl rfl dX2_readSale_7 ?_
  refine lv_bipush (v := 10) hx hb dX2_readSale_10 (by decide) ?_
  refine lv_icmp_lt (tgt := 21) hx hb dX2_readSale_12 (by decide) (fun c1 => ?_) (fun c1 => ?_)
  · have dc1 : v_Ms_4.toInt < 10 := (fa_lt _ _).mp c1
    refine lv_aload_n hx hb dX2_readSale_21 rfl (lv_at hl 0 rfl) ?_
    refine k_get hC hK hP iX2 0 0 wf_X2_12 rfl (by decide) rfl rfl dX2_readSale_22 ?_
    refine k_cv (wr := [(a0, .inr (2, [.ref a1, .ref a2, .int v_rd_2, .int v_rd_3, .int v_rd_4, .int v_rd_5, .int v_rd_6, .int v_rd_7])), (a2, .inr (7, [.int v_M_0, .int v_M_1, .int v_M_2, .ref a3, .ref a4, .int v_M_5, .ref a5, .ref a6, .ref a7, .ref a8, .ref a9, .ref a10, .ref a11, .ref a12, .ref a13])), (a13, .inr (3, [.ref a14, .ref a15, .ref a16, .ref a17, .int v_Ms_4])), (a5, .inl (cJ, 6, .inr (.inl g_M_name))), (a14, .inl (cI, 10, .inl g_Ms_stones)), (a15, .inl (cI, 10, .inl g_Ms_year)), (a16, .inl (cI, 10, .inl g_Ms_trader)), (a17, .inl (cI, 10, .inl g_Ms_price))]) (k_rV hC hN hZ hS hA hK hP hD (c20_X5_advance l G cI cJ cB cZ a1 a18 v_tp_1 v_tp_2 v_tp_3 v_tp_4 w_tp_5 v_tp_6 g_tp_bytes hv_12 hv_13 hv_14 hv_15 hT_g_tp_bytes) [3, 4] rfl (by decide +kernel) mi_X5_advance in_X5_advance se_X5_advance wm_X2_104 5 3 rfl rfl rfl hl.1 rfl rfl (Nat.le_of_ble_eq_true rfl) ⟨(Nat.le_of_ble_eq_true rfl), (Nat.le_of_ble_eq_true rfl)⟩ dX2_readSale_25 ⟨(Nat.le_of_ble_eq_true rfl), (Nat.le_of_ble_eq_true rfl)⟩) hP hD hS hA [3, 4] [0, 1, 2, 5, 6, 7, 8, 9] rfl rfl (by decide +kernel) (by decide +kernel) (fun u2 H locs hp hP hD hS => ?_)
    obtain ⟨h3, h4, h5, y6, h7⟩ := u2
    have hp : (0 ≤ h3.toInt ∧ h3.toInt ≤ 1300 ∧ 0 ≤ h4.toInt ∧ h4.toInt ≤ 1300 ∧ 0 ≤ h5.toInt ∧ h5.toInt ≤ 4) := hp
    have hP : va_P G cl [(a0, .inr (2, [.ref a1, .ref a2, .int v_rd_2, .int v_rd_3, .int v_rd_4, .int v_rd_5, .int v_rd_6, .int v_rd_7])), (a2, .inr (7, [.int v_M_0, .int v_M_1, .int v_M_2, .ref a3, .ref a4, .int v_M_5, .ref a5, .ref a6, .ref a7, .ref a8, .ref a9, .ref a10, .ref a11, .ref a12, .ref a13])), (a13, .inr (3, [.ref a14, .ref a15, .ref a16, .ref a17, .int v_Ms_4])), (a5, .inl (cJ, 6, .inr (.inl g_M_name))), (a14, .inl (cI, 10, .inl g_Ms_stones)), (a15, .inl (cI, 10, .inl g_Ms_year)), (a16, .inl (cI, 10, .inl g_Ms_trader)), (a17, .inl (cI, 10, .inl g_Ms_price)), (a1, .inr (5, [.ref a18, .int v_tp_1, .int h3, .int h4, .int h5, .long y6, .int h7])), (a18, .inl (cB, 1300, .inl g_tp_bytes))] H := hP
    have hD : va_D A [(a0, .inr (2, [.ref a1, .ref a2, .int v_rd_2, .int v_rd_3, .int v_rd_4, .int v_rd_5, .int v_rd_6, .int v_rd_7])), (a2, .inr (7, [.int v_M_0, .int v_M_1, .int v_M_2, .ref a3, .ref a4, .int v_M_5, .ref a5, .ref a6, .ref a7, .ref a8, .ref a9, .ref a10, .ref a11, .ref a12, .ref a13])), (a13, .inr (3, [.ref a14, .ref a15, .ref a16, .ref a17, .int v_Ms_4])), (a5, .inl (cJ, 6, .inr (.inl g_M_name))), (a14, .inl (cI, 10, .inl g_Ms_stones)), (a15, .inl (cI, 10, .inl g_Ms_year)), (a16, .inl (cI, 10, .inl g_Ms_trader)), (a17, .inl (cI, 10, .inl g_Ms_price)), (a1, .inr (5, [.ref a18, .int v_tp_1, .int h3, .int h4, .int h5, .long y6, .int h7])), (a18, .inl (cB, 1300, .inl g_tp_bytes))] := hD
    have hq2 := hp
    refine lv_aload_n hx hb dX2_readSale_28 rfl (lv_at hl 0 rfl) ?_
    refine lv_iconst (v := 0) hx hb dX2_readSale_29 (by decide) ?_
    have l_l9 : (0 : Int32).toInt = 0 := rfl
    refine k_ci (wr := [(a13, .inr (3, [.ref a14, .ref a15, .ref a16, .ref a17, .int v_Ms_4])), (a14, .inl (cI, 10, .inl g_Ms_stones)), (a15, .inl (cI, 10, .inl g_Ms_year)), (a16, .inl (cI, 10, .inl g_Ms_trader)), (a17, .inl (cI, 10, .inl g_Ms_price))]) (k_rV hC hN hZ hS hA hK hP hD (c69_X2_takePile l G cI cJ cB cZ a0 a1 a2 a18 a3 a4 a5 a6 a7 a8 a9 a10 a11 a12 a13 0 v_rd_2 v_rd_3 v_rd_4 v_rd_5 v_rd_6 v_rd_7 v_tp_1 h3 h4 h5 y6 h7 v_M_0 v_M_1 v_M_2 v_M_5 g_M_name g_tp_bytes hv_0 hv_1 hv_2 hv_3 hv_12 hv_13 (by omega) (by omega) hv_4 hv_5 hv_6 hv_7 hv_8 hv_9 hT_g_tp_bytes) [0, 8, 1, 3, 9] rfl (by decide +kernel) mi_X2_takePile in_X2_takePile se_X2_takePile wm_X2_209 2 0 rfl rfl rfl hl.1 rfl rfl (Nat.le_of_ble_eq_true rfl) ⟨(Nat.le_of_ble_eq_true rfl), (Nat.le_of_ble_eq_true rfl)⟩ dX2_readSale_30 ⟨(Nat.le_of_ble_eq_true rfl), (Nat.le_of_ble_eq_true rfl)⟩) hP hD hS hA [0, 8, 1, 3, 9] [2, 4, 5, 6, 7] rfl rfl (by decide +kernel) (by decide +kernel) (fun r8 u8 H locs hp hP hD hS => ?_)
    obtain ⟨h10, h11, h12, h13, h14, y15, h16⟩ := u8
    have hp : ((-1) ≤ r8.toInt ∧ r8.toInt ≤ 63 ∧ 0 ≤ h12.toInt ∧ h12.toInt ≤ 1300) := hp
    have hP : va_P G cl [(a13, .inr (3, [.ref a14, .ref a15, .ref a16, .ref a17, .int v_Ms_4])), (a14, .inl (cI, 10, .inl g_Ms_stones)), (a15, .inl (cI, 10, .inl g_Ms_year)), (a16, .inl (cI, 10, .inl g_Ms_trader)), (a17, .inl (cI, 10, .inl g_Ms_price)), (a0, .inr (2, [.ref a1, .ref a2, .int v_rd_2, .int v_rd_3, .int v_rd_4, .int v_rd_5, .int h10, .int h11])), (a1, .inr (5, [.ref a18, .int v_tp_1, .int h12, .int h13, .int h14, .long y15, .int h16])), (a2, .inr (7, [.int v_M_0, .int v_M_1, .int v_M_2, .ref a3, .ref a4, .int v_M_5, .ref a5, .ref a6, .ref a7, .ref a8, .ref a9, .ref a10, .ref a11, .ref a12, .ref a13])), (a5, .inl (cJ, 6, .inr (.inl g_M_name))), (a18, .inl (cB, 1300, .inl g_tp_bytes))] H := hP
    have hD : va_D A [(a13, .inr (3, [.ref a14, .ref a15, .ref a16, .ref a17, .int v_Ms_4])), (a14, .inl (cI, 10, .inl g_Ms_stones)), (a15, .inl (cI, 10, .inl g_Ms_year)), (a16, .inl (cI, 10, .inl g_Ms_trader)), (a17, .inl (cI, 10, .inl g_Ms_price)), (a0, .inr (2, [.ref a1, .ref a2, .int v_rd_2, .int v_rd_3, .int v_rd_4, .int v_rd_5, .int h10, .int h11])), (a1, .inr (5, [.ref a18, .int v_tp_1, .int h12, .int h13, .int h14, .long y15, .int h16])), (a2, .inr (7, [.int v_M_0, .int v_M_1, .int v_M_2, .ref a3, .ref a4, .int v_M_5, .ref a5, .ref a6, .ref a7, .ref a8, .ref a9, .ref a10, .ref a11, .ref a12, .ref a13])), (a5, .inl (cJ, 6, .inr (.inl g_M_name))), (a18, .inl (cB, 1300, .inl g_tp_bytes))] := hD
    have hq8 := hp
    refine lv_istore_n (lv' := [(1, .int r8), (0, .ref a0)]) hx hb dX2_readSale_33 rfl hl (by decide) rfl (fun ls hl => ?_)
    refine lv_iload_n hx hb dX2_readSale_34 rfl (lv_at hl 0 rfl) ?_
    refine lv_if_lt (tgt := 58) hx hb dX2_readSale_35 (by decide) (fun c17 => ?_) (fun c17 => ?_)
    · have dc17 : r8.toInt < 0 := (fa_lt _ _).mp c17
      refine lv_iconst (v := 0) hx hb dX2_readSale_58 (by decide) ?_
      have l_l18 : (0 : Int32).toInt = 0 := rfl
      rw [← hQm]
      exact k_zret hC hr hlk hK hP hD hS (v_rd_2, h10, h11, v_Ms_4, h12, h13, h14, y15, h16, g_Ms_stones, g_Ms_year, g_Ms_trader, g_Ms_price) [5, 7, 0, 6, 9, 8, 1, 2, 3, 4] rfl (by decide +kernel) rfl (show 0 ≤ (0 : Int32).toInt ∧ (0 : Int32).toInt ≤ 1 ∧ 0 ≤ v_Ms_4.toInt ∧ v_Ms_4.toInt ≤ 10 ∧ 0 ≤ h12.toInt ∧ h12.toInt ≤ 1300 from by omega) (Nat.le_of_ble_eq_true rfl) (Nat.le_of_ble_eq_true rfl) dX2_readSale_59
    · have dc17 : 0 ≤ r8.toInt := fa_nlt c17
      refine lv_aload_n hx hb dX2_readSale_38 rfl (lv_at hl 1 rfl) ?_
      refine lv_ldc2 (v := 26990) hx hb hown (hts _ kl_X2_172) dX2_readSale_39 ?_
      refine k_ci (wr := [(a13, .inr (3, [.ref a14, .ref a15, .ref a16, .ref a17, .int v_Ms_4])), (a14, .inl (cI, 10, .inl g_Ms_stones)), (a15, .inl (cI, 10, .inl g_Ms_year)), (a16, .inl (cI, 10, .inl g_Ms_trader)), (a17, .inl (cI, 10, .inl g_Ms_price)), (a2, .inr (7, [.int v_M_0, .int v_M_1, .int v_M_2, .ref a3, .ref a4, .int v_M_5, .ref a5, .ref a6, .ref a7, .ref a8, .ref a9, .ref a10, .ref a11, .ref a12, .ref a13])), (a5, .inl (cJ, 6, .inr (.inl g_M_name)))]) (k_rV hC hN hZ hS hA hK hP hD (c49_X2_takeWord l G cI cJ cB cZ a0 a1 a2 a18 26990 v_rd_2 v_rd_3 v_rd_4 v_rd_5 h10 h11 v_tp_1 h12 h13 h14 y15 h16 g_tp_bytes hv_0 hv_1 hv_2 hv_3 hv_12 hv_13 (by omega) (by omega) hT_g_tp_bytes) [5, 6, 9] rfl (by decide +kernel) mi_X2_takeWord in_X2_takeWord se_X2_takeWord wm_X2_113 2 5 rfl rfl rfl hl.1 rfl rfl (Nat.le_of_ble_eq_true rfl) ⟨(Nat.le_of_ble_eq_true rfl), (Nat.le_of_ble_eq_true rfl)⟩ dX2_readSale_42 ⟨(Nat.le_of_ble_eq_true rfl), (Nat.le_of_ble_eq_true rfl)⟩) hP hD hS hA [5, 6, 9] [0, 1, 2, 3, 4, 7, 8] rfl rfl (by decide +kernel) (by decide +kernel) (fun r19 u19 H locs hp hP hD hS => ?_)
      obtain ⟨h20, h21, h22, h23, h24, y25, h26⟩ := u19
      have hp : (0 ≤ r19.toInt ∧ r19.toInt ≤ 1 ∧ 0 ≤ h22.toInt ∧ h22.toInt ≤ 1300) := hp
      have hP : va_P G cl [(a13, .inr (3, [.ref a14, .ref a15, .ref a16, .ref a17, .int v_Ms_4])), (a14, .inl (cI, 10, .inl g_Ms_stones)), (a15, .inl (cI, 10, .inl g_Ms_year)), (a16, .inl (cI, 10, .inl g_Ms_trader)), (a17, .inl (cI, 10, .inl g_Ms_price)), (a2, .inr (7, [.int v_M_0, .int v_M_1, .int v_M_2, .ref a3, .ref a4, .int v_M_5, .ref a5, .ref a6, .ref a7, .ref a8, .ref a9, .ref a10, .ref a11, .ref a12, .ref a13])), (a5, .inl (cJ, 6, .inr (.inl g_M_name))), (a0, .inr (2, [.ref a1, .ref a2, .int v_rd_2, .int v_rd_3, .int v_rd_4, .int v_rd_5, .int h20, .int h21])), (a1, .inr (5, [.ref a18, .int v_tp_1, .int h22, .int h23, .int h24, .long y25, .int h26])), (a18, .inl (cB, 1300, .inl g_tp_bytes))] H := hP
      have hD : va_D A [(a13, .inr (3, [.ref a14, .ref a15, .ref a16, .ref a17, .int v_Ms_4])), (a14, .inl (cI, 10, .inl g_Ms_stones)), (a15, .inl (cI, 10, .inl g_Ms_year)), (a16, .inl (cI, 10, .inl g_Ms_trader)), (a17, .inl (cI, 10, .inl g_Ms_price)), (a2, .inr (7, [.int v_M_0, .int v_M_1, .int v_M_2, .ref a3, .ref a4, .int v_M_5, .ref a5, .ref a6, .ref a7, .ref a8, .ref a9, .ref a10, .ref a11, .ref a12, .ref a13])), (a5, .inl (cJ, 6, .inr (.inl g_M_name))), (a0, .inr (2, [.ref a1, .ref a2, .int v_rd_2, .int v_rd_3, .int v_rd_4, .int v_rd_5, .int h20, .int h21])), (a1, .inr (5, [.ref a18, .int v_tp_1, .int h22, .int h23, .int h24, .long y25, .int h26])), (a18, .inl (cB, 1300, .inl g_tp_bytes))] := hD
      have hq19 := hp
      refine lv_if_eq (tgt := 58) hx hb dX2_readSale_45 (by decide) (fun c27 => ?_) (fun c27 => ?_)
      · have dc27 : r19.toInt = 0 := (fa_eq _ _).mp c27
        refine lv_iconst (v := 0) hx hb dX2_readSale_58 (by decide) ?_
        have l_l28 : (0 : Int32).toInt = 0 := rfl
        rw [← hQm]
        exact k_zret hC hr hlk hK hP hD hS (v_rd_2, h20, h21, v_Ms_4, h22, h23, h24, y25, h26, g_Ms_stones, g_Ms_year, g_Ms_trader, g_Ms_price) [7, 5, 0, 8, 9, 6, 1, 2, 3, 4] rfl (by decide +kernel) rfl (show 0 ≤ (0 : Int32).toInt ∧ (0 : Int32).toInt ≤ 1 ∧ 0 ≤ v_Ms_4.toInt ∧ v_Ms_4.toInt ≤ 10 ∧ 0 ≤ h22.toInt ∧ h22.toInt ≤ 1300 from by omega) (Nat.le_of_ble_eq_true rfl) (Nat.le_of_ble_eq_true rfl) dX2_readSale_59
      · have dc27 : r19.toInt ≠ 0 := fa_ne c27
        refine lv_aload_n hx hb dX2_readSale_48 rfl (lv_at hl 1 rfl) ?_
        refine lv_iconst (v := 0) hx hb dX2_readSale_49 (by decide) ?_
        refine lv_bipush (v := 9) hx hb dX2_readSale_50 (by decide) ?_
        refine k_ci (wr := [(a13, .inr (3, [.ref a14, .ref a15, .ref a16, .ref a17, .int v_Ms_4])), (a14, .inl (cI, 10, .inl g_Ms_stones)), (a15, .inl (cI, 10, .inl g_Ms_year)), (a16, .inl (cI, 10, .inl g_Ms_trader)), (a17, .inl (cI, 10, .inl g_Ms_price)), (a2, .inr (7, [.int v_M_0, .int v_M_1, .int v_M_2, .ref a3, .ref a4, .int v_M_5, .ref a5, .ref a6, .ref a7, .ref a8, .ref a9, .ref a10, .ref a11, .ref a12, .ref a13])), (a5, .inl (cJ, 6, .inr (.inl g_M_name)))]) (k_rV hC hN hZ hS hA hK hP hD (c53_X2_takeNumber l G cI cJ cB cZ a0 a1 a2 a18 v_rd_2 v_rd_3 v_rd_4 v_rd_5 h20 h21 v_tp_1 h22 h23 h24 y25 h26 g_tp_bytes hv_0 hv_1 hv_2 hv_3 hv_12 hv_13 (by omega) (by omega) hT_g_tp_bytes) [7, 8, 9] rfl (by decide +kernel) mi_X2_takeNumber in_X2_takeNumber se_X2_takeNumber wm_X2_107 2 7 rfl rfl rfl hl.1 rfl rfl (Nat.le_of_ble_eq_true rfl) ⟨(Nat.le_of_ble_eq_true rfl), (Nat.le_of_ble_eq_true rfl)⟩ dX2_readSale_52 ⟨(Nat.le_of_ble_eq_true rfl), (Nat.le_of_ble_eq_true rfl)⟩) hP hD hS hA [7, 8, 9] [0, 1, 2, 3, 4, 5, 6] rfl rfl (by decide +kernel) (by decide +kernel) (fun r29 u29 H locs hp hP hD hS => ?_)
        obtain ⟨h30, h31, h32, h33, h34, h35, y36, h37⟩ := u29
        have hP : va_P G cl [(a13, .inr (3, [.ref a14, .ref a15, .ref a16, .ref a17, .int v_Ms_4])), (a14, .inl (cI, 10, .inl g_Ms_stones)), (a15, .inl (cI, 10, .inl g_Ms_year)), (a16, .inl (cI, 10, .inl g_Ms_trader)), (a17, .inl (cI, 10, .inl g_Ms_price)), (a2, .inr (7, [.int v_M_0, .int v_M_1, .int v_M_2, .ref a3, .ref a4, .int v_M_5, .ref a5, .ref a6, .ref a7, .ref a8, .ref a9, .ref a10, .ref a11, .ref a12, .ref a13])), (a5, .inl (cJ, 6, .inr (.inl g_M_name))), (a0, .inr (2, [.ref a1, .ref a2, .int h30, .int v_rd_3, .int v_rd_4, .int v_rd_5, .int h31, .int h32])), (a1, .inr (5, [.ref a18, .int v_tp_1, .int h33, .int h34, .int h35, .long y36, .int h37])), (a18, .inl (cB, 1300, .inl g_tp_bytes))] H := hP
        have hD : va_D A [(a13, .inr (3, [.ref a14, .ref a15, .ref a16, .ref a17, .int v_Ms_4])), (a14, .inl (cI, 10, .inl g_Ms_stones)), (a15, .inl (cI, 10, .inl g_Ms_year)), (a16, .inl (cI, 10, .inl g_Ms_trader)), (a17, .inl (cI, 10, .inl g_Ms_price)), (a2, .inr (7, [.int v_M_0, .int v_M_1, .int v_M_2, .ref a3, .ref a4, .int v_M_5, .ref a5, .ref a6, .ref a7, .ref a8, .ref a9, .ref a10, .ref a11, .ref a12, .ref a13])), (a5, .inl (cJ, 6, .inr (.inl g_M_name))), (a0, .inr (2, [.ref a1, .ref a2, .int h30, .int v_rd_3, .int v_rd_4, .int v_rd_5, .int h31, .int h32])), (a1, .inr (5, [.ref a18, .int v_tp_1, .int h33, .int h34, .int h35, .long y36, .int h37])), (a18, .inl (cB, 1300, .inl g_tp_bytes))] := hD
        rcases (show (r29 = 0 ∧ (0 ≤ h33.toInt ∧ h33.toInt ≤ 1300)) ∨ (r29 = 1 ∧ (0 ≤ h30.toInt ∧ h30.toInt ≤ 9 ∧ 0 ≤ h33.toInt ∧ h33.toInt ≤ 1300 ∧ 0 ≤ h34.toInt ∧ h34.toInt ≤ 1300 ∧ 0 ≤ h35.toInt ∧ h35.toInt ≤ 4)) from hp) with ⟨rfl, hq29⟩ | ⟨rfl, hq29⟩
        · clear hp
          have l_29 : (0 : Int32).toInt = 0 := rfl
          refine lv_if_ne (tgt := 60) hx hb dX2_readSale_55 (by decide) (fun c_ => absurd (by decide +kernel) c_) (fun _ => ?_)
          refine lv_iconst (v := 0) hx hb dX2_readSale_58 (by decide) ?_
          have l_l38 : (0 : Int32).toInt = 0 := rfl
          rw [← hQm]
          exact k_zret hC hr hlk hK hP hD hS (h30, h31, h32, v_Ms_4, h33, h34, h35, y36, h37, g_Ms_stones, g_Ms_year, g_Ms_trader, g_Ms_price) [7, 5, 0, 8, 9, 6, 1, 2, 3, 4] rfl (by decide +kernel) rfl (show 0 ≤ (0 : Int32).toInt ∧ (0 : Int32).toInt ≤ 1 ∧ 0 ≤ v_Ms_4.toInt ∧ v_Ms_4.toInt ≤ 10 ∧ 0 ≤ h33.toInt ∧ h33.toInt ≤ 1300 from by omega) (Nat.le_of_ble_eq_true rfl) (Nat.le_of_ble_eq_true rfl) dX2_readSale_59
        · clear hp
          have l_29 : (1 : Int32).toInt = 1 := rfl
          refine lv_if_ne (tgt := 60) hx hb dX2_readSale_55 (by decide) (fun _ => ?_) (fun c_ => absurd c_ (by decide +kernel))
          refine lv_aload_n hx hb dX2_readSale_60 rfl (lv_at hl 1 rfl) ?_
          refine k_get hC hK hP iX2 7 2 wf_X2_25 rfl (by decide) rfl rfl dX2_readSale_61 ?_
          refine lv_istore_n (lv' := [(2, .int h30), (1, .int r8), (0, .ref a0)]) hx hb dX2_readSale_64 rfl hl (by decide) rfl (fun ls hl => ?_)
          refine lv_aload_n hx hb dX2_readSale_65 rfl (lv_at hl 2 rfl) ?_
          refine lv_ldc2 (v := 25209) hx hb hown (hts _ kl_X2_215) dX2_readSale_66 ?_
          refine k_ci (wr := [(a13, .inr (3, [.ref a14, .ref a15, .ref a16, .ref a17, .int v_Ms_4])), (a14, .inl (cI, 10, .inl g_Ms_stones)), (a15, .inl (cI, 10, .inl g_Ms_year)), (a16, .inl (cI, 10, .inl g_Ms_trader)), (a17, .inl (cI, 10, .inl g_Ms_price)), (a2, .inr (7, [.int v_M_0, .int v_M_1, .int v_M_2, .ref a3, .ref a4, .int v_M_5, .ref a5, .ref a6, .ref a7, .ref a8, .ref a9, .ref a10, .ref a11, .ref a12, .ref a13])), (a5, .inl (cJ, 6, .inr (.inl g_M_name)))]) (k_rV hC hN hZ hS hA hK hP hD (c49_X2_takeWord l G cI cJ cB cZ a0 a1 a2 a18 25209 h30 v_rd_3 v_rd_4 v_rd_5 h31 h32 v_tp_1 h33 h34 h35 y36 h37 g_tp_bytes hv_0 hv_1 hv_2 hv_3 hv_12 hv_13 (by omega) (by omega) hT_g_tp_bytes) [7, 8, 9] rfl (by decide +kernel) mi_X2_takeWord in_X2_takeWord se_X2_takeWord wm_X2_113 2 7 rfl rfl rfl hl.1 rfl rfl (Nat.le_of_ble_eq_true rfl) ⟨(Nat.le_of_ble_eq_true rfl), (Nat.le_of_ble_eq_true rfl)⟩ dX2_readSale_69 ⟨(Nat.le_of_ble_eq_true rfl), (Nat.le_of_ble_eq_true rfl)⟩) hP hD hS hA [7, 8, 9] [0, 1, 2, 3, 4, 5, 6] rfl rfl (by decide +kernel) (by decide +kernel) (fun r39 u39 H locs hp hP hD hS => ?_)
          obtain ⟨h40, h41, h42, h43, h44, y45, h46⟩ := u39
          have hp : (0 ≤ r39.toInt ∧ r39.toInt ≤ 1 ∧ 0 ≤ h42.toInt ∧ h42.toInt ≤ 1300) := hp
          have hP : va_P G cl [(a13, .inr (3, [.ref a14, .ref a15, .ref a16, .ref a17, .int v_Ms_4])), (a14, .inl (cI, 10, .inl g_Ms_stones)), (a15, .inl (cI, 10, .inl g_Ms_year)), (a16, .inl (cI, 10, .inl g_Ms_trader)), (a17, .inl (cI, 10, .inl g_Ms_price)), (a2, .inr (7, [.int v_M_0, .int v_M_1, .int v_M_2, .ref a3, .ref a4, .int v_M_5, .ref a5, .ref a6, .ref a7, .ref a8, .ref a9, .ref a10, .ref a11, .ref a12, .ref a13])), (a5, .inl (cJ, 6, .inr (.inl g_M_name))), (a0, .inr (2, [.ref a1, .ref a2, .int h30, .int v_rd_3, .int v_rd_4, .int v_rd_5, .int h40, .int h41])), (a1, .inr (5, [.ref a18, .int v_tp_1, .int h42, .int h43, .int h44, .long y45, .int h46])), (a18, .inl (cB, 1300, .inl g_tp_bytes))] H := hP
          have hD : va_D A [(a13, .inr (3, [.ref a14, .ref a15, .ref a16, .ref a17, .int v_Ms_4])), (a14, .inl (cI, 10, .inl g_Ms_stones)), (a15, .inl (cI, 10, .inl g_Ms_year)), (a16, .inl (cI, 10, .inl g_Ms_trader)), (a17, .inl (cI, 10, .inl g_Ms_price)), (a2, .inr (7, [.int v_M_0, .int v_M_1, .int v_M_2, .ref a3, .ref a4, .int v_M_5, .ref a5, .ref a6, .ref a7, .ref a8, .ref a9, .ref a10, .ref a11, .ref a12, .ref a13])), (a5, .inl (cJ, 6, .inr (.inl g_M_name))), (a0, .inr (2, [.ref a1, .ref a2, .int h30, .int v_rd_3, .int v_rd_4, .int v_rd_5, .int h40, .int h41])), (a1, .inr (5, [.ref a18, .int v_tp_1, .int h42, .int h43, .int h44, .long y45, .int h46])), (a18, .inl (cB, 1300, .inl g_tp_bytes))] := hD
          have hq39 := hp
          refine lv_if_eq (tgt := 85) hx hb dX2_readSale_72 (by decide) (fun c47 => ?_) (fun c47 => ?_)
          · have dc47 : r39.toInt = 0 := (fa_eq _ _).mp c47
            refine lv_iconst (v := 0) hx hb dX2_readSale_85 (by decide) ?_
            have l_l48 : (0 : Int32).toInt = 0 := rfl
            rw [← hQm]
            exact k_zret hC hr hlk hK hP hD hS (h30, h40, h41, v_Ms_4, h42, h43, h44, y45, h46, g_Ms_stones, g_Ms_year, g_Ms_trader, g_Ms_price) [7, 5, 0, 8, 9, 6, 1, 2, 3, 4] rfl (by decide +kernel) rfl (show 0 ≤ (0 : Int32).toInt ∧ (0 : Int32).toInt ≤ 1 ∧ 0 ≤ v_Ms_4.toInt ∧ v_Ms_4.toInt ≤ 10 ∧ 0 ≤ h42.toInt ∧ h42.toInt ≤ 1300 from by omega) (Nat.le_of_ble_eq_true rfl) (Nat.le_of_ble_eq_true rfl) dX2_readSale_86
          · have dc47 : r39.toInt ≠ 0 := fa_ne c47
            refine lv_aload_n hx hb dX2_readSale_75 rfl (lv_at hl 2 rfl) ?_
            refine lv_iconst (v := 0) hx hb dX2_readSale_76 (by decide) ?_
            refine lv_bipush (v := 9) hx hb dX2_readSale_77 (by decide) ?_
            refine k_ci (wr := [(a13, .inr (3, [.ref a14, .ref a15, .ref a16, .ref a17, .int v_Ms_4])), (a14, .inl (cI, 10, .inl g_Ms_stones)), (a15, .inl (cI, 10, .inl g_Ms_year)), (a16, .inl (cI, 10, .inl g_Ms_trader)), (a17, .inl (cI, 10, .inl g_Ms_price)), (a2, .inr (7, [.int v_M_0, .int v_M_1, .int v_M_2, .ref a3, .ref a4, .int v_M_5, .ref a5, .ref a6, .ref a7, .ref a8, .ref a9, .ref a10, .ref a11, .ref a12, .ref a13])), (a5, .inl (cJ, 6, .inr (.inl g_M_name)))]) (k_rV hC hN hZ hS hA hK hP hD (c53_X2_takeNumber l G cI cJ cB cZ a0 a1 a2 a18 h30 v_rd_3 v_rd_4 v_rd_5 h40 h41 v_tp_1 h42 h43 h44 y45 h46 g_tp_bytes hv_0 hv_1 hv_2 hv_3 hv_12 hv_13 (by omega) (by omega) hT_g_tp_bytes) [7, 8, 9] rfl (by decide +kernel) mi_X2_takeNumber in_X2_takeNumber se_X2_takeNumber wm_X2_107 2 7 rfl rfl rfl hl.1 rfl rfl (Nat.le_of_ble_eq_true rfl) ⟨(Nat.le_of_ble_eq_true rfl), (Nat.le_of_ble_eq_true rfl)⟩ dX2_readSale_79 ⟨(Nat.le_of_ble_eq_true rfl), (Nat.le_of_ble_eq_true rfl)⟩) hP hD hS hA [7, 8, 9] [0, 1, 2, 3, 4, 5, 6] rfl rfl (by decide +kernel) (by decide +kernel) (fun r49 u49 H locs hp hP hD hS => ?_)
            obtain ⟨h50, h51, h52, h53, h54, h55, y56, h57⟩ := u49
            have hP : va_P G cl [(a13, .inr (3, [.ref a14, .ref a15, .ref a16, .ref a17, .int v_Ms_4])), (a14, .inl (cI, 10, .inl g_Ms_stones)), (a15, .inl (cI, 10, .inl g_Ms_year)), (a16, .inl (cI, 10, .inl g_Ms_trader)), (a17, .inl (cI, 10, .inl g_Ms_price)), (a2, .inr (7, [.int v_M_0, .int v_M_1, .int v_M_2, .ref a3, .ref a4, .int v_M_5, .ref a5, .ref a6, .ref a7, .ref a8, .ref a9, .ref a10, .ref a11, .ref a12, .ref a13])), (a5, .inl (cJ, 6, .inr (.inl g_M_name))), (a0, .inr (2, [.ref a1, .ref a2, .int h50, .int v_rd_3, .int v_rd_4, .int v_rd_5, .int h51, .int h52])), (a1, .inr (5, [.ref a18, .int v_tp_1, .int h53, .int h54, .int h55, .long y56, .int h57])), (a18, .inl (cB, 1300, .inl g_tp_bytes))] H := hP
            have hD : va_D A [(a13, .inr (3, [.ref a14, .ref a15, .ref a16, .ref a17, .int v_Ms_4])), (a14, .inl (cI, 10, .inl g_Ms_stones)), (a15, .inl (cI, 10, .inl g_Ms_year)), (a16, .inl (cI, 10, .inl g_Ms_trader)), (a17, .inl (cI, 10, .inl g_Ms_price)), (a2, .inr (7, [.int v_M_0, .int v_M_1, .int v_M_2, .ref a3, .ref a4, .int v_M_5, .ref a5, .ref a6, .ref a7, .ref a8, .ref a9, .ref a10, .ref a11, .ref a12, .ref a13])), (a5, .inl (cJ, 6, .inr (.inl g_M_name))), (a0, .inr (2, [.ref a1, .ref a2, .int h50, .int v_rd_3, .int v_rd_4, .int v_rd_5, .int h51, .int h52])), (a1, .inr (5, [.ref a18, .int v_tp_1, .int h53, .int h54, .int h55, .long y56, .int h57])), (a18, .inl (cB, 1300, .inl g_tp_bytes))] := hD
            rcases (show (r49 = 0 ∧ (0 ≤ h53.toInt ∧ h53.toInt ≤ 1300)) ∨ (r49 = 1 ∧ (0 ≤ h50.toInt ∧ h50.toInt ≤ 9 ∧ 0 ≤ h53.toInt ∧ h53.toInt ≤ 1300 ∧ 0 ≤ h54.toInt ∧ h54.toInt ≤ 1300 ∧ 0 ≤ h55.toInt ∧ h55.toInt ≤ 4)) from hp) with ⟨rfl, hq49⟩ | ⟨rfl, hq49⟩
            · clear hp
              have l_49 : (0 : Int32).toInt = 0 := rfl
              refine lv_if_ne (tgt := 87) hx hb dX2_readSale_82 (by decide) (fun c_ => absurd (by decide +kernel) c_) (fun _ => ?_)
              refine lv_iconst (v := 0) hx hb dX2_readSale_85 (by decide) ?_
              have l_l58 : (0 : Int32).toInt = 0 := rfl
              rw [← hQm]
              exact k_zret hC hr hlk hK hP hD hS (h50, h51, h52, v_Ms_4, h53, h54, h55, y56, h57, g_Ms_stones, g_Ms_year, g_Ms_trader, g_Ms_price) [7, 5, 0, 8, 9, 6, 1, 2, 3, 4] rfl (by decide +kernel) rfl (show 0 ≤ (0 : Int32).toInt ∧ (0 : Int32).toInt ≤ 1 ∧ 0 ≤ v_Ms_4.toInt ∧ v_Ms_4.toInt ≤ 10 ∧ 0 ≤ h53.toInt ∧ h53.toInt ≤ 1300 from by omega) (Nat.le_of_ble_eq_true rfl) (Nat.le_of_ble_eq_true rfl) dX2_readSale_86
            · clear hp
              have l_49 : (1 : Int32).toInt = 1 := rfl
              refine lv_if_ne (tgt := 87) hx hb dX2_readSale_82 (by decide) (fun _ => ?_) (fun c_ => absurd c_ (by decide +kernel))
              refine lv_aload_n hx hb dX2_readSale_87 rfl (lv_at hl 2 rfl) ?_
              refine k_get hC hK hP iX2 7 2 wf_X2_25 rfl (by decide) rfl rfl dX2_readSale_88 ?_
              refine lv_istore_n (lv' := [(3, .int h50), (2, .int h30), (1, .int r8), (0, .ref a0)]) hx hb dX2_readSale_91 rfl hl (by decide) rfl (fun ls hl => ?_)
              refine lv_aload_n hx hb dX2_readSale_92 rfl (lv_at hl 3 rfl) ?_
              refine lv_ldc2 (v := 482955846501) hx hb hown (hts _ kl_X2_237) dX2_readSale_93 ?_
              refine k_ci (wr := [(a13, .inr (3, [.ref a14, .ref a15, .ref a16, .ref a17, .int v_Ms_4])), (a14, .inl (cI, 10, .inl g_Ms_stones)), (a15, .inl (cI, 10, .inl g_Ms_year)), (a16, .inl (cI, 10, .inl g_Ms_trader)), (a17, .inl (cI, 10, .inl g_Ms_price)), (a2, .inr (7, [.int v_M_0, .int v_M_1, .int v_M_2, .ref a3, .ref a4, .int v_M_5, .ref a5, .ref a6, .ref a7, .ref a8, .ref a9, .ref a10, .ref a11, .ref a12, .ref a13])), (a5, .inl (cJ, 6, .inr (.inl g_M_name)))]) (k_rV hC hN hZ hS hA hK hP hD (c49_X2_takeWord l G cI cJ cB cZ a0 a1 a2 a18 482955846501 h50 v_rd_3 v_rd_4 v_rd_5 h51 h52 v_tp_1 h53 h54 h55 y56 h57 g_tp_bytes hv_0 hv_1 hv_2 hv_3 hv_12 hv_13 (by omega) (by omega) hT_g_tp_bytes) [7, 8, 9] rfl (by decide +kernel) mi_X2_takeWord in_X2_takeWord se_X2_takeWord wm_X2_113 2 7 rfl rfl rfl hl.1 rfl rfl (Nat.le_of_ble_eq_true rfl) ⟨(Nat.le_of_ble_eq_true rfl), (Nat.le_of_ble_eq_true rfl)⟩ dX2_readSale_96 ⟨(Nat.le_of_ble_eq_true rfl), (Nat.le_of_ble_eq_true rfl)⟩) hP hD hS hA [7, 8, 9] [0, 1, 2, 3, 4, 5, 6] rfl rfl (by decide +kernel) (by decide +kernel) (fun r59 u59 H locs hp hP hD hS => ?_)
              obtain ⟨h60, h61, h62, h63, h64, y65, h66⟩ := u59
              have hp : (0 ≤ r59.toInt ∧ r59.toInt ≤ 1 ∧ 0 ≤ h62.toInt ∧ h62.toInt ≤ 1300) := hp
              have hP : va_P G cl [(a13, .inr (3, [.ref a14, .ref a15, .ref a16, .ref a17, .int v_Ms_4])), (a14, .inl (cI, 10, .inl g_Ms_stones)), (a15, .inl (cI, 10, .inl g_Ms_year)), (a16, .inl (cI, 10, .inl g_Ms_trader)), (a17, .inl (cI, 10, .inl g_Ms_price)), (a2, .inr (7, [.int v_M_0, .int v_M_1, .int v_M_2, .ref a3, .ref a4, .int v_M_5, .ref a5, .ref a6, .ref a7, .ref a8, .ref a9, .ref a10, .ref a11, .ref a12, .ref a13])), (a5, .inl (cJ, 6, .inr (.inl g_M_name))), (a0, .inr (2, [.ref a1, .ref a2, .int h50, .int v_rd_3, .int v_rd_4, .int v_rd_5, .int h60, .int h61])), (a1, .inr (5, [.ref a18, .int v_tp_1, .int h62, .int h63, .int h64, .long y65, .int h66])), (a18, .inl (cB, 1300, .inl g_tp_bytes))] H := hP
              have hD : va_D A [(a13, .inr (3, [.ref a14, .ref a15, .ref a16, .ref a17, .int v_Ms_4])), (a14, .inl (cI, 10, .inl g_Ms_stones)), (a15, .inl (cI, 10, .inl g_Ms_year)), (a16, .inl (cI, 10, .inl g_Ms_trader)), (a17, .inl (cI, 10, .inl g_Ms_price)), (a2, .inr (7, [.int v_M_0, .int v_M_1, .int v_M_2, .ref a3, .ref a4, .int v_M_5, .ref a5, .ref a6, .ref a7, .ref a8, .ref a9, .ref a10, .ref a11, .ref a12, .ref a13])), (a5, .inl (cJ, 6, .inr (.inl g_M_name))), (a0, .inr (2, [.ref a1, .ref a2, .int h50, .int v_rd_3, .int v_rd_4, .int v_rd_5, .int h60, .int h61])), (a1, .inr (5, [.ref a18, .int v_tp_1, .int h62, .int h63, .int h64, .long y65, .int h66])), (a18, .inl (cB, 1300, .inl g_tp_bytes))] := hD
              have hq59 := hp
              refine lv_if_eq (tgt := 112) hx hb dX2_readSale_99 (by decide) (fun c67 => ?_) (fun c67 => ?_)
              · have dc67 : r59.toInt = 0 := (fa_eq _ _).mp c67
                refine lv_iconst (v := 0) hx hb dX2_readSale_112 (by decide) ?_
                have l_l68 : (0 : Int32).toInt = 0 := rfl
                rw [← hQm]
                exact k_zret hC hr hlk hK hP hD hS (h50, h60, h61, v_Ms_4, h62, h63, h64, y65, h66, g_Ms_stones, g_Ms_year, g_Ms_trader, g_Ms_price) [7, 5, 0, 8, 9, 6, 1, 2, 3, 4] rfl (by decide +kernel) rfl (show 0 ≤ (0 : Int32).toInt ∧ (0 : Int32).toInt ≤ 1 ∧ 0 ≤ v_Ms_4.toInt ∧ v_Ms_4.toInt ≤ 10 ∧ 0 ≤ h62.toInt ∧ h62.toInt ≤ 1300 from by omega) (Nat.le_of_ble_eq_true rfl) (Nat.le_of_ble_eq_true rfl) dX2_readSale_113
              · have dc67 : r59.toInt ≠ 0 := fa_ne c67
                refine lv_aload_n hx hb dX2_readSale_102 rfl (lv_at hl 3 rfl) ?_
                refine lv_iconst (v := 0) hx hb dX2_readSale_103 (by decide) ?_
                refine lv_bipush (v := 99) hx hb dX2_readSale_104 (by decide) ?_
                refine k_ci (wr := [(a13, .inr (3, [.ref a14, .ref a15, .ref a16, .ref a17, .int v_Ms_4])), (a14, .inl (cI, 10, .inl g_Ms_stones)), (a15, .inl (cI, 10, .inl g_Ms_year)), (a16, .inl (cI, 10, .inl g_Ms_trader)), (a17, .inl (cI, 10, .inl g_Ms_price)), (a2, .inr (7, [.int v_M_0, .int v_M_1, .int v_M_2, .ref a3, .ref a4, .int v_M_5, .ref a5, .ref a6, .ref a7, .ref a8, .ref a9, .ref a10, .ref a11, .ref a12, .ref a13])), (a5, .inl (cJ, 6, .inr (.inl g_M_name)))]) (k_rV hC hN hZ hS hA hK hP hD (c73_X2_takeNumber l G cI cJ cB cZ a0 a1 a2 a18 h50 v_rd_3 v_rd_4 v_rd_5 h60 h61 v_tp_1 h62 h63 h64 y65 h66 g_tp_bytes hv_0 hv_1 hv_2 hv_3 hv_12 hv_13 (by omega) (by omega) hT_g_tp_bytes) [7, 8, 9] rfl (by decide +kernel) mi_X2_takeNumber in_X2_takeNumber se_X2_takeNumber wm_X2_107 2 7 rfl rfl rfl hl.1 rfl rfl (Nat.le_of_ble_eq_true rfl) ⟨(Nat.le_of_ble_eq_true rfl), (Nat.le_of_ble_eq_true rfl)⟩ dX2_readSale_106 ⟨(Nat.le_of_ble_eq_true rfl), (Nat.le_of_ble_eq_true rfl)⟩) hP hD hS hA [7, 8, 9] [0, 1, 2, 3, 4, 5, 6] rfl rfl (by decide +kernel) (by decide +kernel) (fun r69 u69 H locs hp hP hD hS => ?_)
                obtain ⟨h70, h71, h72, h73, h74, h75, y76, h77⟩ := u69
                have hP : va_P G cl [(a13, .inr (3, [.ref a14, .ref a15, .ref a16, .ref a17, .int v_Ms_4])), (a14, .inl (cI, 10, .inl g_Ms_stones)), (a15, .inl (cI, 10, .inl g_Ms_year)), (a16, .inl (cI, 10, .inl g_Ms_trader)), (a17, .inl (cI, 10, .inl g_Ms_price)), (a2, .inr (7, [.int v_M_0, .int v_M_1, .int v_M_2, .ref a3, .ref a4, .int v_M_5, .ref a5, .ref a6, .ref a7, .ref a8, .ref a9, .ref a10, .ref a11, .ref a12, .ref a13])), (a5, .inl (cJ, 6, .inr (.inl g_M_name))), (a0, .inr (2, [.ref a1, .ref a2, .int h70, .int v_rd_3, .int v_rd_4, .int v_rd_5, .int h71, .int h72])), (a1, .inr (5, [.ref a18, .int v_tp_1, .int h73, .int h74, .int h75, .long y76, .int h77])), (a18, .inl (cB, 1300, .inl g_tp_bytes))] H := hP
                have hD : va_D A [(a13, .inr (3, [.ref a14, .ref a15, .ref a16, .ref a17, .int v_Ms_4])), (a14, .inl (cI, 10, .inl g_Ms_stones)), (a15, .inl (cI, 10, .inl g_Ms_year)), (a16, .inl (cI, 10, .inl g_Ms_trader)), (a17, .inl (cI, 10, .inl g_Ms_price)), (a2, .inr (7, [.int v_M_0, .int v_M_1, .int v_M_2, .ref a3, .ref a4, .int v_M_5, .ref a5, .ref a6, .ref a7, .ref a8, .ref a9, .ref a10, .ref a11, .ref a12, .ref a13])), (a5, .inl (cJ, 6, .inr (.inl g_M_name))), (a0, .inr (2, [.ref a1, .ref a2, .int h70, .int v_rd_3, .int v_rd_4, .int v_rd_5, .int h71, .int h72])), (a1, .inr (5, [.ref a18, .int v_tp_1, .int h73, .int h74, .int h75, .long y76, .int h77])), (a18, .inl (cB, 1300, .inl g_tp_bytes))] := hD
                rcases (show (r69 = 0 ∧ (0 ≤ h73.toInt ∧ h73.toInt ≤ 1300)) ∨ (r69 = 1 ∧ (0 ≤ h70.toInt ∧ h70.toInt ≤ 99 ∧ 0 ≤ h73.toInt ∧ h73.toInt ≤ 1300 ∧ 0 ≤ h74.toInt ∧ h74.toInt ≤ 1300 ∧ 0 ≤ h75.toInt ∧ h75.toInt ≤ 4)) from hp) with ⟨rfl, hq69⟩ | ⟨rfl, hq69⟩
                · clear hp
                  have l_69 : (0 : Int32).toInt = 0 := rfl
                  refine lv_if_ne (tgt := 114) hx hb dX2_readSale_109 (by decide) (fun c_ => absurd (by decide +kernel) c_) (fun _ => ?_)
                  refine lv_iconst (v := 0) hx hb dX2_readSale_112 (by decide) ?_
                  have l_l78 : (0 : Int32).toInt = 0 := rfl
                  rw [← hQm]
                  exact k_zret hC hr hlk hK hP hD hS (h70, h71, h72, v_Ms_4, h73, h74, h75, y76, h77, g_Ms_stones, g_Ms_year, g_Ms_trader, g_Ms_price) [7, 5, 0, 8, 9, 6, 1, 2, 3, 4] rfl (by decide +kernel) rfl (show 0 ≤ (0 : Int32).toInt ∧ (0 : Int32).toInt ≤ 1 ∧ 0 ≤ v_Ms_4.toInt ∧ v_Ms_4.toInt ≤ 10 ∧ 0 ≤ h73.toInt ∧ h73.toInt ≤ 1300 from by omega) (Nat.le_of_ble_eq_true rfl) (Nat.le_of_ble_eq_true rfl) dX2_readSale_113
                · clear hp
                  have l_69 : (1 : Int32).toInt = 1 := rfl
                  refine lv_if_ne (tgt := 114) hx hb dX2_readSale_109 (by decide) (fun _ => ?_) (fun c_ => absurd c_ (by decide +kernel))
                  refine lv_aload_n hx hb dX2_readSale_114 rfl (lv_at hl 3 rfl) ?_
                  refine k_get hC hK hP iX2 7 1 wf_X2_21 rfl (by decide) rfl rfl dX2_readSale_115 ?_
                  refine k_getN hC hN hK hP iX7 5 14 wf_X2_230 rfl (by decide) rfl rfl dX2_readSale_118 ?_
                  refine lv_iload_n hx hb dX2_readSale_121 rfl (lv_at hl 2 rfl) ?_
                  refine lv_iload_n hx hb dX2_readSale_122 rfl (lv_at hl 1 rfl) ?_
                  refine lv_iload_n hx hb dX2_readSale_123 rfl (lv_at hl 0 rfl) ?_
                  refine lv_aload_n hx hb dX2_readSale_124 rfl (lv_at hl 3 rfl) ?_
                  refine k_get hC hK hP iX2 7 2 wf_X2_25 rfl (by decide) rfl rfl dX2_readSale_125 ?_
                  refine k_cv (wr := [(a2, .inr (7, [.int v_M_0, .int v_M_1, .int v_M_2, .ref a3, .ref a4, .int v_M_5, .ref a5, .ref a6, .ref a7, .ref a8, .ref a9, .ref a10, .ref a11, .ref a12, .ref a13])), (a5, .inl (cJ, 6, .inr (.inl g_M_name))), (a0, .inr (2, [.ref a1, .ref a2, .int h70, .int v_rd_3, .int v_rd_4, .int v_rd_5, .int h71, .int h72])), (a1, .inr (5, [.ref a18, .int v_tp_1, .int h73, .int h74, .int h75, .long y76, .int h77])), (a18, .inl (cB, 1300, .inl g_tp_bytes))]) (k_rV hC hN hZ hS hA hK hP hD (c13_X3_put l G cI cJ cB cZ a13 a14 a15 a16 a17 r8 h30 h50 h70 v_Ms_4 g_Ms_stones g_Ms_year g_Ms_trader g_Ms_price hv_10 hv_11) [0, 1, 2, 3, 4] rfl (by decide +kernel) mi_X3_put in_X3_put se_X3_put wm_X2_239 3 0 rfl rfl rfl hl.1 rfl rfl (Nat.le_of_ble_eq_true rfl) ⟨(Nat.le_of_ble_eq_true rfl), (Nat.le_of_ble_eq_true rfl)⟩ dX2_readSale_128 ⟨(Nat.le_of_ble_eq_true rfl), (Nat.le_of_ble_eq_true rfl)⟩) hP hD hS hA [0, 1, 2, 3, 4] [5, 6, 7, 8, 9] rfl rfl (by decide +kernel) (by decide +kernel) (fun u79 H locs hp hP hD hS => ?_)
                  obtain ⟨h80, f81, f82, f83, f84⟩ := u79
                  have hp : (1 ≤ h80.toInt ∧ h80.toInt ≤ 10) := hp
                  have hP : va_P G cl [(a2, .inr (7, [.int v_M_0, .int v_M_1, .int v_M_2, .ref a3, .ref a4, .int v_M_5, .ref a5, .ref a6, .ref a7, .ref a8, .ref a9, .ref a10, .ref a11, .ref a12, .ref a13])), (a5, .inl (cJ, 6, .inr (.inl g_M_name))), (a0, .inr (2, [.ref a1, .ref a2, .int h70, .int v_rd_3, .int v_rd_4, .int v_rd_5, .int h71, .int h72])), (a1, .inr (5, [.ref a18, .int v_tp_1, .int h73, .int h74, .int h75, .long y76, .int h77])), (a18, .inl (cB, 1300, .inl g_tp_bytes)), (a13, .inr (3, [.ref a14, .ref a15, .ref a16, .ref a17, .int h80])), (a14, .inl (cI, 10, .inl f81)), (a15, .inl (cI, 10, .inl f82)), (a16, .inl (cI, 10, .inl f83)), (a17, .inl (cI, 10, .inl f84))] H := hP
                  have hD : va_D A [(a2, .inr (7, [.int v_M_0, .int v_M_1, .int v_M_2, .ref a3, .ref a4, .int v_M_5, .ref a5, .ref a6, .ref a7, .ref a8, .ref a9, .ref a10, .ref a11, .ref a12, .ref a13])), (a5, .inl (cJ, 6, .inr (.inl g_M_name))), (a0, .inr (2, [.ref a1, .ref a2, .int h70, .int v_rd_3, .int v_rd_4, .int v_rd_5, .int h71, .int h72])), (a1, .inr (5, [.ref a18, .int v_tp_1, .int h73, .int h74, .int h75, .long y76, .int h77])), (a18, .inl (cB, 1300, .inl g_tp_bytes)), (a13, .inr (3, [.ref a14, .ref a15, .ref a16, .ref a17, .int h80])), (a14, .inl (cI, 10, .inl f81)), (a15, .inl (cI, 10, .inl f82)), (a16, .inl (cI, 10, .inl f83)), (a17, .inl (cI, 10, .inl f84))] := hD
                  have hq79 := hp
                  refine lv_aload_n hx hb dX2_readSale_131 rfl (lv_at hl 3 rfl) ?_
                  refine k_ci (wr := [(a2, .inr (7, [.int v_M_0, .int v_M_1, .int v_M_2, .ref a3, .ref a4, .int v_M_5, .ref a5, .ref a6, .ref a7, .ref a8, .ref a9, .ref a10, .ref a11, .ref a12, .ref a13])), (a5, .inl (cJ, 6, .inr (.inl g_M_name))), (a13, .inr (3, [.ref a14, .ref a15, .ref a16, .ref a17, .int h80])), (a14, .inl (cI, 10, .inl f81)), (a15, .inl (cI, 10, .inl f82)), (a16, .inl (cI, 10, .inl f83)), (a17, .inl (cI, 10, .inl f84))]) (k_rV hC hN hZ hS hA hK hP hD (c51_X2_takeSign l G cI cJ cB cZ a0 a1 a2 a18 h70 v_rd_3 v_rd_4 v_rd_5 h71 h72 v_tp_1 h73 h74 h75 y76 h77 g_tp_bytes hv_0 hv_1 hv_2 hv_3 hv_12 hv_13 (by omega) (by omega) hT_g_tp_bytes) [2, 3, 4] rfl (by decide +kernel) mi_X2_takeSign in_X2_takeSign se_X2_takeSign wm_X2_128 2 2 rfl rfl rfl hl.1 rfl rfl (Nat.le_of_ble_eq_true rfl) ⟨(Nat.le_of_ble_eq_true rfl), (Nat.le_of_ble_eq_true rfl)⟩ dX2_readSale_132 ⟨(Nat.le_of_ble_eq_true rfl), (Nat.le_of_ble_eq_true rfl)⟩) hP hD hS hA [2, 3, 4] [0, 1, 5, 6, 7, 8, 9] rfl rfl (by decide +kernel) (by decide +kernel) (fun r85 u85 H locs hp hP hD hS => ?_)
                  obtain ⟨h86, h87, h88, h89, h90, y91, h92⟩ := u85
                  have hp : (0 ≤ r85.toInt ∧ r85.toInt ≤ 1 ∧ 0 ≤ h88.toInt ∧ h88.toInt ≤ 1300) := hp
                  have hP : va_P G cl [(a2, .inr (7, [.int v_M_0, .int v_M_1, .int v_M_2, .ref a3, .ref a4, .int v_M_5, .ref a5, .ref a6, .ref a7, .ref a8, .ref a9, .ref a10, .ref a11, .ref a12, .ref a13])), (a5, .inl (cJ, 6, .inr (.inl g_M_name))), (a13, .inr (3, [.ref a14, .ref a15, .ref a16, .ref a17, .int h80])), (a14, .inl (cI, 10, .inl f81)), (a15, .inl (cI, 10, .inl f82)), (a16, .inl (cI, 10, .inl f83)), (a17, .inl (cI, 10, .inl f84)), (a0, .inr (2, [.ref a1, .ref a2, .int h70, .int v_rd_3, .int v_rd_4, .int v_rd_5, .int h86, .int h87])), (a1, .inr (5, [.ref a18, .int v_tp_1, .int h88, .int h89, .int h90, .long y91, .int h92])), (a18, .inl (cB, 1300, .inl g_tp_bytes))] H := hP
                  have hD : va_D A [(a2, .inr (7, [.int v_M_0, .int v_M_1, .int v_M_2, .ref a3, .ref a4, .int v_M_5, .ref a5, .ref a6, .ref a7, .ref a8, .ref a9, .ref a10, .ref a11, .ref a12, .ref a13])), (a5, .inl (cJ, 6, .inr (.inl g_M_name))), (a13, .inr (3, [.ref a14, .ref a15, .ref a16, .ref a17, .int h80])), (a14, .inl (cI, 10, .inl f81)), (a15, .inl (cI, 10, .inl f82)), (a16, .inl (cI, 10, .inl f83)), (a17, .inl (cI, 10, .inl f84)), (a0, .inr (2, [.ref a1, .ref a2, .int h70, .int v_rd_3, .int v_rd_4, .int v_rd_5, .int h86, .int h87])), (a1, .inr (5, [.ref a18, .int v_tp_1, .int h88, .int h89, .int h90, .long y91, .int h92])), (a18, .inl (cB, 1300, .inl g_tp_bytes))] := hD
                  have hq85 := hp
                  rw [← hQm]
                  exact k_zret hC hr hlk hK hP hD hS (h70, h86, h87, h80, h88, h89, h90, y91, h92, f81, f82, f83, f84) [7, 0, 2, 8, 9, 1, 3, 4, 5, 6] rfl (by decide +kernel) (nar_bool (by omega) (by omega)) (show 0 ≤ r85.toInt ∧ r85.toInt ≤ 1 ∧ 0 ≤ h80.toInt ∧ h80.toInt ≤ 10 ∧ 0 ≤ h88.toInt ∧ h88.toInt ≤ 1300 from by omega) (Nat.le_of_ble_eq_true rfl) (Nat.le_of_ble_eq_true rfl) dX2_readSale_135
  · have dc1 : 10 ≤ v_Ms_4.toInt := fa_nlt c1
    refine lv_aload_n hx hb dX2_readSale_15 rfl (lv_at hl 0 rfl) ?_
    refine lv_iconst (v := 2) hx hb dX2_readSale_16 (by decide) ?_
    have l_l94 : (2 : Int32).toInt = 2 := rfl
    refine k_ci (wr := [(a2, .inr (7, [.int v_M_0, .int v_M_1, .int v_M_2, .ref a3, .ref a4, .int v_M_5, .ref a5, .ref a6, .ref a7, .ref a8, .ref a9, .ref a10, .ref a11, .ref a12, .ref a13])), (a13, .inr (3, [.ref a14, .ref a15, .ref a16, .ref a17, .int v_Ms_4])), (a18, .inl (cB, 1300, .inl g_tp_bytes)), (a5, .inl (cJ, 6, .inr (.inl g_M_name))), (a14, .inl (cI, 10, .inl g_Ms_stones)), (a15, .inl (cI, 10, .inl g_Ms_year)), (a16, .inl (cI, 10, .inl g_Ms_trader)), (a17, .inl (cI, 10, .inl g_Ms_price))]) (k_rV hC hN hZ hS hA hK hP hD (c47_X2_refuse l G cI cJ cB cZ a0 a1 a2 a18 2 v_rd_2 v_rd_3 v_rd_4 v_rd_5 v_rd_6 v_rd_7 v_tp_1 v_tp_2 v_tp_3 v_tp_4 w_tp_5 v_tp_6 hv_0 hv_1 hv_2 hv_3 hv_12 hv_13 hv_14 hv_15) [0, 3] rfl (by decide +kernel) mi_X2_refuse in_X2_refuse se_X2_refuse wm_X2_100 2 0 rfl rfl rfl hl.1 rfl rfl (Nat.le_of_ble_eq_true rfl) ⟨(Nat.le_of_ble_eq_true rfl), (Nat.le_of_ble_eq_true rfl)⟩ dX2_readSale_17 ⟨(Nat.le_of_ble_eq_true rfl), (Nat.le_of_ble_eq_true rfl)⟩) hP hD hS hA [0, 3] [1, 2, 4, 5, 6, 7, 8, 9] rfl rfl (by decide +kernel) (by decide +kernel) (fun r93 u93 H locs hp hP hD hS => ?_)
    obtain ⟨h95, h96⟩ := u93
    have hp : (r93 = 0 ∧ True) := hp
    obtain rfl : r93 = 0 := hp.1
    have hP : va_P G cl [(a2, .inr (7, [.int v_M_0, .int v_M_1, .int v_M_2, .ref a3, .ref a4, .int v_M_5, .ref a5, .ref a6, .ref a7, .ref a8, .ref a9, .ref a10, .ref a11, .ref a12, .ref a13])), (a13, .inr (3, [.ref a14, .ref a15, .ref a16, .ref a17, .int v_Ms_4])), (a18, .inl (cB, 1300, .inl g_tp_bytes)), (a5, .inl (cJ, 6, .inr (.inl g_M_name))), (a14, .inl (cI, 10, .inl g_Ms_stones)), (a15, .inl (cI, 10, .inl g_Ms_year)), (a16, .inl (cI, 10, .inl g_Ms_trader)), (a17, .inl (cI, 10, .inl g_Ms_price)), (a0, .inr (2, [.ref a1, .ref a2, .int v_rd_2, .int v_rd_3, .int v_rd_4, .int v_rd_5, .int h95, .int h96])), (a1, .inr (5, [.ref a18, .int v_tp_1, .int v_tp_2, .int v_tp_3, .int v_tp_4, .long w_tp_5, .int v_tp_6]))] H := hP
    have hD : va_D A [(a2, .inr (7, [.int v_M_0, .int v_M_1, .int v_M_2, .ref a3, .ref a4, .int v_M_5, .ref a5, .ref a6, .ref a7, .ref a8, .ref a9, .ref a10, .ref a11, .ref a12, .ref a13])), (a13, .inr (3, [.ref a14, .ref a15, .ref a16, .ref a17, .int v_Ms_4])), (a18, .inl (cB, 1300, .inl g_tp_bytes)), (a5, .inl (cJ, 6, .inr (.inl g_M_name))), (a14, .inl (cI, 10, .inl g_Ms_stones)), (a15, .inl (cI, 10, .inl g_Ms_year)), (a16, .inl (cI, 10, .inl g_Ms_trader)), (a17, .inl (cI, 10, .inl g_Ms_price)), (a0, .inr (2, [.ref a1, .ref a2, .int v_rd_2, .int v_rd_3, .int v_rd_4, .int v_rd_5, .int h95, .int h96])), (a1, .inr (5, [.ref a18, .int v_tp_1, .int v_tp_2, .int v_tp_3, .int v_tp_4, .long w_tp_5, .int v_tp_6]))] := hD
    have hq93 := hp
    have l_l97 : (0 : Int32).toInt = 0 := rfl
    rw [← hQm]
    exact k_zret hC hr hlk hK hP hD hS (v_rd_2, h95, h96, v_Ms_4, v_tp_2, v_tp_3, v_tp_4, w_tp_5, v_tp_6, g_Ms_stones, g_Ms_year, g_Ms_trader, g_Ms_price) [8, 0, 1, 9, 2, 3, 4, 5, 6, 7] rfl (by decide +kernel) rfl (show 0 ≤ (0 : Int32).toInt ∧ (0 : Int32).toInt ≤ 1 ∧ 0 ≤ v_Ms_4.toInt ∧ v_Ms_4.toInt ≤ 10 ∧ 0 ≤ v_tp_2.toInt ∧ v_tp_2.toInt ≤ 1300 from by omega) (Nat.le_of_ble_eq_true rfl) (Nat.le_of_ble_eq_true rfl) dX2_readSale_20

set_option maxHeartbeats 4000000 in
set_option maxRecDepth 100000 in
theorem c53_X2_takeNumber (l : Launch) (G : va_G) (cI cJ cB cZ : ClassId) (a0 a1 a2 a3 : Nat) (v_rd_2 : Int32) (v_rd_3 : Int32) (v_rd_4 : Int32) (v_rd_5 : Int32) (v_rd_6 : Int32) (v_rd_7 : Int32) (v_tp_1 : Int32) (v_tp_2 : Int32) (v_tp_3 : Int32) (v_tp_4 : Int32) (w_tp_5 : Int64) (v_tp_6 : Int32) (g_tp_bytes : Nat → Int32) (hv_0 : 0 ≤ v_rd_3.toInt) (hv_1 : v_rd_3.toInt ≤ 1) (hv_2 : 0 ≤ v_rd_4.toInt) (hv_3 : v_rd_4.toInt ≤ 1) (hv_4 : 0 ≤ v_tp_1.toInt) (hv_5 : v_tp_1.toInt ≤ 1300) (hv_6 : 0 ≤ v_tp_2.toInt) (hv_7 : v_tp_2.toInt ≤ 1300) (hT_g_tp_bytes : TA (-128) 127 g_tp_bytes) : Con l G (TY cI cJ cB cZ) yX2_takeNumber cX2_takeNumber 3 (some .boolean) ({ frames := 3, cells := 0, slots := 0, locals := 61 } : Room) [.ref a0, .int 0, .int 9] [(a0, .inr (2, [.ref a1, .ref a2, .int v_rd_2, .int v_rd_3, .int v_rd_4, .int v_rd_5, .int v_rd_6, .int v_rd_7])), (a1, .inr (5, [.ref a3, .int v_tp_1, .int v_tp_2, .int v_tp_3, .int v_tp_4, .long w_tp_5, .int v_tp_6])), (a3, .inl (cB, 1300, .inl g_tp_bytes))] (QI G (TY cI cJ cB cZ) (fun (r : Int32) (u : Int32 × Int32 × Int32 × Int32 × Int32 × Int32 × Int64 × Int32) => (r = 0 ∧ (0 ≤ u.2.2.2.1.toInt ∧ u.2.2.2.1.toInt ≤ 1300)) ∨ (r = 1 ∧ (0 ≤ u.1.toInt ∧ u.1.toInt ≤ 9 ∧ 0 ≤ u.2.2.2.1.toInt ∧ u.2.2.2.1.toInt ≤ 1300 ∧ 0 ≤ u.2.2.2.2.1.toInt ∧ u.2.2.2.2.1.toInt ≤ 1300 ∧ 0 ≤ u.2.2.2.2.2.1.toInt ∧ u.2.2.2.2.2.1.toInt ≤ 4))) (fun u : Int32 × Int32 × Int32 × Int32 × Int32 × Int32 × Int64 × Int32 => [(a0, .inr (2, [.ref a1, .ref a2, .int u.1, .int v_rd_3, .int v_rd_4, .int v_rd_5, .int u.2.1, .int u.2.2.1])), (a1, .inr (5, [.ref a3, .int v_tp_1, .int u.2.2.2.1, .int u.2.2.2.2.1, .int u.2.2.2.2.2.1, .long u.2.2.2.2.2.2.1, .int u.2.2.2.2.2.2.2])), (a3, .inl (cB, 1300, .inl g_tp_bytes))])) := by
  refine k_met (by decide) (Nat.le_of_ble_eq_true rfl) ?_
  intro p e s m below meth c A ls hC hr hlk hnm hN hZ hK hA hP hD hS hl
  have hl : lv_has ls 3 [(0, .ref a0), (1, .int 0), (2, .int 9)] := hl
  generalize hQm : MQ below _ _ s _ _ A = Qm
  generalize (List.toArray _ : Array Value) = args at hC hQm ⊢
  obtain ⟨hx, hb, hml, hown, hts⟩ := id hC
  obtain ⟨H, hH⟩ : ∃ q, q = s.heap := ⟨_, rfl⟩
  obtain ⟨locs, hlo⟩ : ∃ q : List Loc, q = [] := ⟨_, rfl⟩
  have hP : va_P G cl [(a0, .inr (2, [.ref a1, .ref a2, .int v_rd_2, .int v_rd_3, .int v_rd_4, .int v_rd_5, .int v_rd_6, .int v_rd_7])), (a1, .inr (5, [.ref a3, .int v_tp_1, .int v_tp_2, .int v_tp_3, .int v_tp_4, .long w_tp_5, .int v_tp_6])), (a3, .inl (cB, 1300, .inl g_tp_bytes))] H := by rw [hH]; exact hP
  have hS : va_S A s.heap H locs := by rw [hH, hlo]; exact hS
  rw [← hlo]
  rw [← hH]
  refine lv_aload_n hx hb dX2_takeNumber_0 rfl (lv_at hl 0 rfl) ?_
  refine k_get hC hK hP iX2 0 0 wf_X2_12 rfl (by decide) rfl rfl dX2_takeNumber_1 ?_
  refine k_getN hC hN hK hP iX5 1 4 wf_X2_51 rfl (by decide) rfl rfl dX2_takeNumber_4 ?_
  refine lv_iconst (v := 2) hx hb dX2_takeNumber_7 (by decide) ?_
  refine lv_icmp_eq (tgt := 17) hx hb dX2_takeNumber_8 (by decide) (fun c1 => ?_) (fun c1 => ?_)
  · have dc1 : v_tp_4.toInt = 2 := (fa_eq _ _).mp c1; have lbc1_0 := i_lo v_tp_4; have ubc1_0 := i_hi v_tp_4
    refine lv_aload_n hx hb dX2_takeNumber_17 rfl (lv_at hl 0 rfl) ?_
    refine k_get hC hK hP iX2 0 0 wf_X2_12 rfl (by decide) rfl rfl dX2_takeNumber_18 ?_
    refine k_getN hC hN hK hP iX5 1 6 wf_X2_146 rfl (by decide) rfl rfl dX2_takeNumber_21 ?_
    refine lv_iload_n hx hb dX2_takeNumber_24 rfl (lv_at hl 1 rfl) ?_
    refine lv_icmp_lt (tgt := 39) hx hb dX2_takeNumber_25 (by decide) (fun c2 => ?_) (fun c2 => ?_)
    · have dc2 : v_tp_6.toInt < 0 := (fa_lt _ _).mp c2; have lbc2_0 := i_lo v_tp_6; have ubc2_0 := i_hi v_tp_6
      refine lv_aload_n hx hb dX2_takeNumber_39 rfl (lv_at hl 0 rfl) ?_
      refine lv_iconst (v := 4) hx hb dX2_takeNumber_40 (by decide) ?_
      have l_l4 : (4 : Int32).toInt = 4 := rfl
      refine k_ci (wr := [(a3, .inl (cB, 1300, .inl g_tp_bytes))]) (k_rV hC hN hZ hS hA hK hP hD (c47_X2_refuse l G cI cJ cB cZ a0 a1 a2 a3 4 v_rd_2 v_rd_3 v_rd_4 v_rd_5 v_rd_6 v_rd_7 v_tp_1 v_tp_2 v_tp_3 v_tp_4 w_tp_5 v_tp_6 hv_0 hv_1 hv_2 hv_3 hv_4 hv_5 hv_6 hv_7) [0, 1] rfl (by decide +kernel) mi_X2_refuse in_X2_refuse se_X2_refuse wm_X2_100 2 0 rfl rfl rfl hl.1 rfl rfl (Nat.le_of_ble_eq_true rfl) ⟨(Nat.le_of_ble_eq_true rfl), (Nat.le_of_ble_eq_true rfl)⟩ dX2_takeNumber_41 ⟨(Nat.le_of_ble_eq_true rfl), (Nat.le_of_ble_eq_true rfl)⟩) hP hD hS hA [0, 1] [2] rfl rfl (by decide +kernel) (by decide +kernel) (fun r3 u3 H locs hp hP hD hS => ?_)
      obtain ⟨h5, h6⟩ := u3
      have hp : (r3 = 0 ∧ True) := hp
      obtain rfl : r3 = 0 := hp.1
      have hP : va_P G cl [(a3, .inl (cB, 1300, .inl g_tp_bytes)), (a0, .inr (2, [.ref a1, .ref a2, .int v_rd_2, .int v_rd_3, .int v_rd_4, .int v_rd_5, .int h5, .int h6])), (a1, .inr (5, [.ref a3, .int v_tp_1, .int v_tp_2, .int v_tp_3, .int v_tp_4, .long w_tp_5, .int v_tp_6]))] H := hP
      have hD : va_D A [(a3, .inl (cB, 1300, .inl g_tp_bytes)), (a0, .inr (2, [.ref a1, .ref a2, .int v_rd_2, .int v_rd_3, .int v_rd_4, .int v_rd_5, .int h5, .int h6])), (a1, .inr (5, [.ref a3, .int v_tp_1, .int v_tp_2, .int v_tp_3, .int v_tp_4, .long w_tp_5, .int v_tp_6]))] := hD
      have hq3 := hp
      have l_l7 : (0 : Int32).toInt = 0 := rfl
      rw [← hQm]
      exact k_zret hC hr hlk hK hP hD hS (v_rd_2, h5, h6, v_tp_2, v_tp_3, v_tp_4, w_tp_5, v_tp_6) [1, 2, 0] rfl (by decide +kernel) rfl (Or.inl ⟨rfl, (show 0 ≤ v_tp_2.toInt ∧ v_tp_2.toInt ≤ 1300 from by omega)⟩) (Nat.le_of_ble_eq_true rfl) (Nat.le_of_ble_eq_true rfl) dX2_takeNumber_44
    · have dc2 : 0 ≤ v_tp_6.toInt := fa_nlt c2; have lbc2_0 := i_lo v_tp_6; have ubc2_0 := i_hi v_tp_6
      refine lv_aload_n hx hb dX2_takeNumber_28 rfl (lv_at hl 0 rfl) ?_
      refine k_get hC hK hP iX2 0 0 wf_X2_12 rfl (by decide) rfl rfl dX2_takeNumber_29 ?_
      refine k_getN hC hN hK hP iX5 1 6 wf_X2_146 rfl (by decide) rfl rfl dX2_takeNumber_32 ?_
      refine lv_iload_n hx hb dX2_takeNumber_35 rfl (lv_at hl 2 rfl) ?_
      refine lv_icmp_le (tgt := 45) hx hb dX2_takeNumber_36 (by decide) (fun c8 => ?_) (fun c8 => ?_)
      · have dc8 : v_tp_6.toInt ≤ 9 := (fa_le _ _).mp c8; have ubc8_0 := i_hi v_tp_6
        refine lv_aload_n hx hb dX2_takeNumber_45 rfl (lv_at hl 0 rfl) ?_
        refine lv_aload_n hx hb dX2_takeNumber_46 rfl (lv_at hl 0 rfl) ?_
        refine k_get hC hK hP iX2 0 0 wf_X2_12 rfl (by decide) rfl rfl dX2_takeNumber_47 ?_
        refine k_getN hC hN hK hP iX5 1 6 wf_X2_146 rfl (by decide) rfl rfl dX2_takeNumber_50 ?_
        refine k_put hC hK hP hD hS iX2 tyX2_ok nmX2 0 2 wf_X2_25 rfl (by decide) rfl rfl rfl rfl (Nat.le_of_ble_eq_true rfl) dX2_takeNumber_53 (fun H locs hP hD hS => ?_)
        have hP : va_P G cl [(a0, .inr (2, [.ref a1, .ref a2, .int v_tp_6, .int v_rd_3, .int v_rd_4, .int v_rd_5, .int v_rd_6, .int v_rd_7])), (a1, .inr (5, [.ref a3, .int v_tp_1, .int v_tp_2, .int v_tp_3, .int v_tp_4, .long w_tp_5, .int v_tp_6])), (a3, .inl (cB, 1300, .inl g_tp_bytes))] H := hP
        have hD : va_D A [(a0, .inr (2, [.ref a1, .ref a2, .int v_tp_6, .int v_rd_3, .int v_rd_4, .int v_rd_5, .int v_rd_6, .int v_rd_7])), (a1, .inr (5, [.ref a3, .int v_tp_1, .int v_tp_2, .int v_tp_3, .int v_tp_4, .long w_tp_5, .int v_tp_6])), (a3, .inl (cB, 1300, .inl g_tp_bytes))] := hD
        refine lv_aload_n hx hb dX2_takeNumber_56 rfl (lv_at hl 0 rfl) ?_
        refine k_get hC hK hP iX2 0 0 wf_X2_12 rfl (by decide) rfl rfl dX2_takeNumber_57 ?_
        refine k_cv (wr := [(a0, .inr (2, [.ref a1, .ref a2, .int v_tp_6, .int v_rd_3, .int v_rd_4, .int v_rd_5, .int v_rd_6, .int v_rd_7]))]) (k_rV hC hN hZ hS hA hK hP hD (c20_X5_advance l G cI cJ cB cZ a1 a3 v_tp_1 v_tp_2 v_tp_3 v_tp_4 w_tp_5 v_tp_6 g_tp_bytes hv_4 hv_5 hv_6 hv_7 hT_g_tp_bytes) [1, 2] rfl (by decide +kernel) mi_X5_advance in_X5_advance se_X5_advance wm_X2_104 5 1 rfl rfl rfl hl.1 rfl rfl (Nat.le_of_ble_eq_true rfl) ⟨(Nat.le_of_ble_eq_true rfl), (Nat.le_of_ble_eq_true rfl)⟩ dX2_takeNumber_60 ⟨(Nat.le_of_ble_eq_true rfl), (Nat.le_of_ble_eq_true rfl)⟩) hP hD hS hA [1, 2] [0] rfl rfl (by decide +kernel) (by decide +kernel) (fun u9 H locs hp hP hD hS => ?_)
        obtain ⟨h10, h11, h12, y13, h14⟩ := u9
        have hp : (0 ≤ h10.toInt ∧ h10.toInt ≤ 1300 ∧ 0 ≤ h11.toInt ∧ h11.toInt ≤ 1300 ∧ 0 ≤ h12.toInt ∧ h12.toInt ≤ 4) := hp
        have hP : va_P G cl [(a0, .inr (2, [.ref a1, .ref a2, .int v_tp_6, .int v_rd_3, .int v_rd_4, .int v_rd_5, .int v_rd_6, .int v_rd_7])), (a1, .inr (5, [.ref a3, .int v_tp_1, .int h10, .int h11, .int h12, .long y13, .int h14])), (a3, .inl (cB, 1300, .inl g_tp_bytes))] H := hP
        have hD : va_D A [(a0, .inr (2, [.ref a1, .ref a2, .int v_tp_6, .int v_rd_3, .int v_rd_4, .int v_rd_5, .int v_rd_6, .int v_rd_7])), (a1, .inr (5, [.ref a3, .int v_tp_1, .int h10, .int h11, .int h12, .long y13, .int h14])), (a3, .inl (cB, 1300, .inl g_tp_bytes))] := hD
        have hq9 := hp
        refine lv_iconst (v := 1) hx hb dX2_takeNumber_63 (by decide) ?_
        have l_l15 : (1 : Int32).toInt = 1 := rfl
        rw [← hQm]
        exact k_zret hC hr hlk hK hP hD hS (v_tp_6, v_rd_6, v_rd_7, h10, h11, h12, y13, h14) [0, 1, 2] rfl (by decide +kernel) rfl (Or.inr ⟨rfl, (show 0 ≤ v_tp_6.toInt ∧ v_tp_6.toInt ≤ 9 ∧ 0 ≤ h10.toInt ∧ h10.toInt ≤ 1300 ∧ 0 ≤ h11.toInt ∧ h11.toInt ≤ 1300 ∧ 0 ≤ h12.toInt ∧ h12.toInt ≤ 4 from by omega)⟩) (Nat.le_of_ble_eq_true rfl) (Nat.le_of_ble_eq_true rfl) dX2_takeNumber_64
      · have dc8 : 9 < v_tp_6.toInt := fa_nle c8; have ubc8_0 := i_hi v_tp_6
        refine lv_aload_n hx hb dX2_takeNumber_39 rfl (lv_at hl 0 rfl) ?_
        refine lv_iconst (v := 4) hx hb dX2_takeNumber_40 (by decide) ?_
        have l_l17 : (4 : Int32).toInt = 4 := rfl
        refine k_ci (wr := [(a3, .inl (cB, 1300, .inl g_tp_bytes))]) (k_rV hC hN hZ hS hA hK hP hD (c47_X2_refuse l G cI cJ cB cZ a0 a1 a2 a3 4 v_rd_2 v_rd_3 v_rd_4 v_rd_5 v_rd_6 v_rd_7 v_tp_1 v_tp_2 v_tp_3 v_tp_4 w_tp_5 v_tp_6 hv_0 hv_1 hv_2 hv_3 hv_4 hv_5 hv_6 hv_7) [0, 1] rfl (by decide +kernel) mi_X2_refuse in_X2_refuse se_X2_refuse wm_X2_100 2 0 rfl rfl rfl hl.1 rfl rfl (Nat.le_of_ble_eq_true rfl) ⟨(Nat.le_of_ble_eq_true rfl), (Nat.le_of_ble_eq_true rfl)⟩ dX2_takeNumber_41 ⟨(Nat.le_of_ble_eq_true rfl), (Nat.le_of_ble_eq_true rfl)⟩) hP hD hS hA [0, 1] [2] rfl rfl (by decide +kernel) (by decide +kernel) (fun r16 u16 H locs hp hP hD hS => ?_)
        obtain ⟨h18, h19⟩ := u16
        have hp : (r16 = 0 ∧ True) := hp
        obtain rfl : r16 = 0 := hp.1
        have hP : va_P G cl [(a3, .inl (cB, 1300, .inl g_tp_bytes)), (a0, .inr (2, [.ref a1, .ref a2, .int v_rd_2, .int v_rd_3, .int v_rd_4, .int v_rd_5, .int h18, .int h19])), (a1, .inr (5, [.ref a3, .int v_tp_1, .int v_tp_2, .int v_tp_3, .int v_tp_4, .long w_tp_5, .int v_tp_6]))] H := hP
        have hD : va_D A [(a3, .inl (cB, 1300, .inl g_tp_bytes)), (a0, .inr (2, [.ref a1, .ref a2, .int v_rd_2, .int v_rd_3, .int v_rd_4, .int v_rd_5, .int h18, .int h19])), (a1, .inr (5, [.ref a3, .int v_tp_1, .int v_tp_2, .int v_tp_3, .int v_tp_4, .long w_tp_5, .int v_tp_6]))] := hD
        have hq16 := hp
        have l_l20 : (0 : Int32).toInt = 0 := rfl
        rw [← hQm]
        exact k_zret hC hr hlk hK hP hD hS (v_rd_2, h18, h19, v_tp_2, v_tp_3, v_tp_4, w_tp_5, v_tp_6) [1, 2, 0] rfl (by decide +kernel) rfl (Or.inl ⟨rfl, (show 0 ≤ v_tp_2.toInt ∧ v_tp_2.toInt ≤ 1300 from by omega)⟩) (Nat.le_of_ble_eq_true rfl) (Nat.le_of_ble_eq_true rfl) dX2_takeNumber_44
  · have dc1 : v_tp_4.toInt ≠ 2 := fa_ne c1; have lbc1_0 := i_lo v_tp_4; have ubc1_0 := i_hi v_tp_4
    refine lv_aload_n hx hb dX2_takeNumber_11 rfl (lv_at hl 0 rfl) ?_
    refine lv_iconst (v := 2) hx hb dX2_takeNumber_12 (by decide) ?_
    have l_l22 : (2 : Int32).toInt = 2 := rfl
    refine k_ci (wr := [(a3, .inl (cB, 1300, .inl g_tp_bytes))]) (k_rV hC hN hZ hS hA hK hP hD (c47_X2_refuse l G cI cJ cB cZ a0 a1 a2 a3 2 v_rd_2 v_rd_3 v_rd_4 v_rd_5 v_rd_6 v_rd_7 v_tp_1 v_tp_2 v_tp_3 v_tp_4 w_tp_5 v_tp_6 hv_0 hv_1 hv_2 hv_3 hv_4 hv_5 hv_6 hv_7) [0, 1] rfl (by decide +kernel) mi_X2_refuse in_X2_refuse se_X2_refuse wm_X2_100 2 0 rfl rfl rfl hl.1 rfl rfl (Nat.le_of_ble_eq_true rfl) ⟨(Nat.le_of_ble_eq_true rfl), (Nat.le_of_ble_eq_true rfl)⟩ dX2_takeNumber_13 ⟨(Nat.le_of_ble_eq_true rfl), (Nat.le_of_ble_eq_true rfl)⟩) hP hD hS hA [0, 1] [2] rfl rfl (by decide +kernel) (by decide +kernel) (fun r21 u21 H locs hp hP hD hS => ?_)
    obtain ⟨h23, h24⟩ := u21
    have hp : (r21 = 0 ∧ True) := hp
    obtain rfl : r21 = 0 := hp.1
    have hP : va_P G cl [(a3, .inl (cB, 1300, .inl g_tp_bytes)), (a0, .inr (2, [.ref a1, .ref a2, .int v_rd_2, .int v_rd_3, .int v_rd_4, .int v_rd_5, .int h23, .int h24])), (a1, .inr (5, [.ref a3, .int v_tp_1, .int v_tp_2, .int v_tp_3, .int v_tp_4, .long w_tp_5, .int v_tp_6]))] H := hP
    have hD : va_D A [(a3, .inl (cB, 1300, .inl g_tp_bytes)), (a0, .inr (2, [.ref a1, .ref a2, .int v_rd_2, .int v_rd_3, .int v_rd_4, .int v_rd_5, .int h23, .int h24])), (a1, .inr (5, [.ref a3, .int v_tp_1, .int v_tp_2, .int v_tp_3, .int v_tp_4, .long w_tp_5, .int v_tp_6]))] := hD
    have hq21 := hp
    have l_l25 : (0 : Int32).toInt = 0 := rfl
    rw [← hQm]
    exact k_zret hC hr hlk hK hP hD hS (v_rd_2, h23, h24, v_tp_2, v_tp_3, v_tp_4, w_tp_5, v_tp_6) [1, 2, 0] rfl (by decide +kernel) rfl (Or.inl ⟨rfl, (show 0 ≤ v_tp_2.toInt ∧ v_tp_2.toInt ≤ 1300 from by omega)⟩) (Nat.le_of_ble_eq_true rfl) (Nat.le_of_ble_eq_true rfl) dX2_takeNumber_16
theorem dX2_readFeel_0 : decode cX2_readFeel 0 = .ok (.aload_n 0, 1) := by decide +kernel
theorem dX2_readFeel_1 : decode cX2_readFeel 1 = .ok (.getfield 33, 3) := by decide +kernel
set_option maxRecDepth 100000 in
theorem wf_X2_33 : Cond.fieldLink RX2 33 "StoneTrust$Reader" "feelTold" "Z" ∈ gw := gm (List.mem_of_getElem? (i := 344) (by decide +kernel)) rfl
theorem dX2_readFeel_4 : decode cX2_readFeel 4 = .ok (.ifCond .eq 9, 3) := by decide +kernel
theorem dX2_readFeel_13 : decode cX2_readFeel 13 = .ok (.aload_n 0, 1) := by decide +kernel
theorem dX2_readFeel_14 : decode cX2_readFeel 14 = .ok (.iconst 1, 1) := by decide +kernel
theorem dX2_readFeel_15 : decode cX2_readFeel 15 = .ok (.putfield 33, 3) := by decide +kernel
theorem dX2_readFeel_18 : decode cX2_readFeel 18 = .ok (.aload_n 0, 1) := by decide +kernel
theorem dX2_readFeel_19 : decode cX2_readFeel 19 = .ok (.getfield 12, 3) := by decide +kernel
theorem dX2_readFeel_22 : decode cX2_readFeel 22 = .ok (.invokevirtual 104, 3) := by decide +kernel
theorem dX2_readFeel_25 : decode cX2_readFeel 25 = .ok (.aload_n 0, 1) := by decide +kernel
theorem dX2_readFeel_26 : decode cX2_readFeel 26 = .ok (.iconst 0, 1) := by decide +kernel
theorem dX2_readFeel_27 : decode cX2_readFeel 27 = .ok (.bipush 9, 2) := by decide +kernel
theorem dX2_readFeel_29 : decode cX2_readFeel 29 = .ok (.invokevirtual 107, 3) := by decide +kernel
theorem dX2_readFeel_32 : decode cX2_readFeel 32 = .ok (.ifCond .ne 5, 3) := by decide +kernel
theorem dX2_readFeel_35 : decode cX2_readFeel 35 = .ok (.iconst 0, 1) := by decide +kernel
theorem dX2_readFeel_36 : decode cX2_readFeel 36 = .ok (.ireturn, 1) := by decide +kernel
theorem dX2_readFeel_37 : decode cX2_readFeel 37 = .ok (.aload_n 0, 1) := by decide +kernel
theorem dX2_readFeel_38 : decode cX2_readFeel 38 = .ok (.getfield 21, 3) := by decide +kernel
theorem dX2_readFeel_41 : decode cX2_readFeel 41 = .ok (.aload_n 0, 1) := by decide +kernel
theorem dX2_readFeel_42 : decode cX2_readFeel 42 = .ok (.getfield 25, 3) := by decide +kernel
theorem dX2_readFeel_45 : decode cX2_readFeel 45 = .ok (.putfield 131, 3) := by decide +kernel
set_option maxRecDepth 100000 in
theorem wf_X2_131 : Cond.fieldLinkNest RX2 131 "StoneTrust$Village" "feel" "I" "StoneTrust" ∈ nests := nm_ (List.mem_of_getElem? (i := 230) (by decide +kernel)) rfl
theorem dX2_readFeel_48 : decode cX2_readFeel 48 = .ok (.aload_n 0, 1) := by decide +kernel
theorem dX2_readFeel_49 : decode cX2_readFeel 49 = .ok (.invokevirtual 128, 3) := by decide +kernel
theorem dX2_readFeel_52 : decode cX2_readFeel 52 = .ok (.ireturn, 1) := by decide +kernel
theorem dX2_readFeel_7 : decode cX2_readFeel 7 = .ok (.aload_n 0, 1) := by decide +kernel
theorem dX2_readFeel_8 : decode cX2_readFeel 8 = .ok (.iconst 2, 1) := by decide +kernel
theorem dX2_readFeel_9 : decode cX2_readFeel 9 = .ok (.invokevirtual 100, 3) := by decide +kernel
theorem dX2_readFeel_12 : decode cX2_readFeel 12 = .ok (.ireturn, 1) := by decide +kernel
set_option maxHeartbeats 4000000 in
set_option maxRecDepth 100000 in
theorem c54_X2_readFeel (l : Launch) (G : va_G) (cI cJ cB cZ : ClassId) (a0 a1 a2 a3 a4 a5 a6 a7 a8 a9 a10 a11 a12 a13 a14 : Nat) (v_rd_2 : Int32) (v_rd_3 : Int32) (v_rd_4 : Int32) (v_rd_5 : Int32) (v_rd_6 : Int32) (v_rd_7 : Int32) (v_tp_1 : Int32) (v_tp_2 : Int32) (v_tp_3 : Int32) (v_tp_4 : Int32) (w_tp_5 : Int64) (v_tp_6 : Int32) (v_M_0 : Int32) (v_M_1 : Int32) (v_M_2 : Int32) (v_M_5 : Int32) (g_tp_bytes : Nat → Int32) (hv_0 : 0 ≤ v_rd_3.toInt) (hv_1 : v_rd_3.toInt ≤ 1) (hv_2 : 0 ≤ v_rd_4.toInt) (hv_3 : v_rd_4.toInt ≤ 1) (hv_4 : 0 ≤ v_tp_1.toInt) (hv_5 : v_tp_1.toInt ≤ 1300) (hv_6 : 0 ≤ v_tp_2.toInt) (hv_7 : v_tp_2.toInt ≤ 1300) (hv_8 : 0 ≤ v_M_0.toInt) (hv_9 : v_M_0.toInt ≤ 110) (hv_10 : 0 ≤ v_M_1.toInt) (hv_11 : v_M_1.toInt ≤ 110) (hv_12 : 0 ≤ v_M_5.toInt) (hv_13 : v_M_5.toInt ≤ 6) (hT_g_tp_bytes : TA (-128) 127 g_tp_bytes) : Con l G (TY cI cJ cB cZ) yX2_readFeel cX2_readFeel 1 (some .boolean) ({ frames := 4, cells := 0, slots := 0, locals := 83 } : Room) [.ref a0] [(a0, .inr (2, [.ref a1, .ref a2, .int v_rd_2, .int v_rd_3, .int v_rd_4, .int v_rd_5, .int v_rd_6, .int v_rd_7])), (a1, .inr (5, [.ref a3, .int v_tp_1, .int v_tp_2, .int v_tp_3, .int v_tp_4, .long w_tp_5, .int v_tp_6])), (a3, .inl (cB, 1300, .inl g_tp_bytes)), (a2, .inr (7, [.int v_M_0, .int v_M_1, .int v_M_2, .ref a4, .ref a5, .int v_M_5, .ref a6, .ref a7, .ref a8, .ref a9, .ref a10, .ref a11, .ref a12, .ref a13, .ref a14]))] (QI G (TY cI cJ cB cZ) (fun (r : Int32) (u : Int32 × Int32 × Int32 × Int32 × Int32 × Int32 × Int32 × Int64 × Int32 × Int32) => (0 ≤ r.toInt ∧ r.toInt ≤ 1 ∧ 1 ≤ u.2.1.toInt ∧ u.2.1.toInt ≤ 1 ∧ 0 ≤ u.2.2.2.2.1.toInt ∧ u.2.2.2.2.1.toInt ≤ 1300)) (fun u : Int32 × Int32 × Int32 × Int32 × Int32 × Int32 × Int32 × Int64 × Int32 × Int32 => [(a0, .inr (2, [.ref a1, .ref a2, .int u.1, .int v_rd_3, .int u.2.1, .int v_rd_5, .int u.2.2.1, .int u.2.2.2.1])), (a1, .inr (5, [.ref a3, .int v_tp_1, .int u.2.2.2.2.1, .int u.2.2.2.2.2.1, .int u.2.2.2.2.2.2.1, .long u.2.2.2.2.2.2.2.1, .int u.2.2.2.2.2.2.2.2.1])), (a3, .inl (cB, 1300, .inl g_tp_bytes)), (a2, .inr (7, [.int v_M_0, .int v_M_1, .int u.2.2.2.2.2.2.2.2.2, .ref a4, .ref a5, .int v_M_5, .ref a6, .ref a7, .ref a8, .ref a9, .ref a10, .ref a11, .ref a12, .ref a13, .ref a14]))])) := by
  refine k_met (by decide) (Nat.le_of_ble_eq_true rfl) ?_
  intro p e s m below meth c A ls hC hr hlk hnm hN hZ hK hA hP hD hS hl
  have hl : lv_has ls 1 [(0, .ref a0)] := hl
  generalize hQm : MQ below _ _ s _ _ A = Qm
  generalize (List.toArray _ : Array Value) = args at hC hQm ⊢
  obtain ⟨hx, hb, hml, hown, hts⟩ := id hC
  obtain ⟨H, hH⟩ : ∃ q, q = s.heap := ⟨_, rfl⟩
  obtain ⟨locs, hlo⟩ : ∃ q : List Loc, q = [] := ⟨_, rfl⟩
  have hP : va_P G cl [(a0, .inr (2, [.ref a1, .ref a2, .int v_rd_2, .int v_rd_3, .int v_rd_4, .int v_rd_5, .int v_rd_6, .int v_rd_7])), (a1, .inr (5, [.ref a3, .int v_tp_1, .int v_tp_2, .int v_tp_3, .int v_tp_4, .long w_tp_5, .int v_tp_6])), (a3, .inl (cB, 1300, .inl g_tp_bytes)), (a2, .inr (7, [.int v_M_0, .int v_M_1, .int v_M_2, .ref a4, .ref a5, .int v_M_5, .ref a6, .ref a7, .ref a8, .ref a9, .ref a10, .ref a11, .ref a12, .ref a13, .ref a14]))] H := by rw [hH]; exact hP
  have hS : va_S A s.heap H locs := by rw [hH, hlo]; exact hS
  rw [← hlo]
  rw [← hH]
  refine lv_aload_n hx hb dX2_readFeel_0 rfl (lv_at hl 0 rfl) ?_
  refine k_get hC hK hP iX2 0 4 wf_X2_33 rfl (by decide) rfl rfl dX2_readFeel_1 ?_
  refine lv_if_eq (tgt := 13) hx hb dX2_readFeel_4 (by decide) (fun c1 => ?_) (fun c1 => ?_)
  · have dc1 : v_rd_4.toInt = 0 := (fa_eq _ _).mp c1
    refine lv_aload_n hx hb dX2_readFeel_13 rfl (lv_at hl 0 rfl) ?_
    refine lv_iconst (v := 1) hx hb dX2_readFeel_14 (by decide) ?_
    refine k_put hC hK hP hD hS iX2 tyX2_ok nmX2 0 4 wf_X2_33 rfl (by decide) rfl rfl rfl rfl (Nat.le_of_ble_eq_true rfl) dX2_readFeel_15 (fun H locs hP hD hS => ?_)
    have hP : va_P G cl [(a0, .inr (2, [.ref a1, .ref a2, .int v_rd_2, .int v_rd_3, .int 1, .int v_rd_5, .int v_rd_6, .int v_rd_7])), (a1, .inr (5, [.ref a3, .int v_tp_1, .int v_tp_2, .int v_tp_3, .int v_tp_4, .long w_tp_5, .int v_tp_6])), (a3, .inl (cB, 1300, .inl g_tp_bytes)), (a2, .inr (7, [.int v_M_0, .int v_M_1, .int v_M_2, .ref a4, .ref a5, .int v_M_5, .ref a6, .ref a7, .ref a8, .ref a9, .ref a10, .ref a11, .ref a12, .ref a13, .ref a14]))] H := hP
    have hD : va_D A [(a0, .inr (2, [.ref a1, .ref a2, .int v_rd_2, .int v_rd_3, .int 1, .int v_rd_5, .int v_rd_6, .int v_rd_7])), (a1, .inr (5, [.ref a3, .int v_tp_1, .int v_tp_2, .int v_tp_3, .int v_tp_4, .long w_tp_5, .int v_tp_6])), (a3, .inl (cB, 1300, .inl g_tp_bytes)), (a2, .inr (7, [.int v_M_0, .int v_M_1, .int v_M_2, .ref a4, .ref a5, .int v_M_5, .ref a6, .ref a7, .ref a8, .ref a9, .ref a10, .ref a11, .ref a12, .ref a13, .ref a14]))] := hD
    refine lv_aload_n hx hb dX2_readFeel_18 rfl (lv_at hl 0 rfl) ?_
    refine k_get hC hK hP iX2 0 0 wf_X2_12 rfl (by decide) rfl rfl dX2_readFeel_19 ?_
    refine k_cv (wr := [(a0, .inr (2, [.ref a1, .ref a2, .int v_rd_2, .int v_rd_3, .int 1, .int v_rd_5, .int v_rd_6, .int v_rd_7])), (a2, .inr (7, [.int v_M_0, .int v_M_1, .int v_M_2, .ref a4, .ref a5, .int v_M_5, .ref a6, .ref a7, .ref a8, .ref a9, .ref a10, .ref a11, .ref a12, .ref a13, .ref a14]))]) (k_rV hC hN hZ hS hA hK hP hD (c20_X5_advance l G cI cJ cB cZ a1 a3 v_tp_1 v_tp_2 v_tp_3 v_tp_4 w_tp_5 v_tp_6 g_tp_bytes hv_4 hv_5 hv_6 hv_7 hT_g_tp_bytes) [1, 2] rfl (by decide +kernel) mi_X5_advance in_X5_advance se_X5_advance wm_X2_104 5 1 rfl rfl rfl hl.1 rfl rfl (Nat.le_of_ble_eq_true rfl) ⟨(Nat.le_of_ble_eq_true rfl), (Nat.le_of_ble_eq_true rfl)⟩ dX2_readFeel_22 ⟨(Nat.le_of_ble_eq_true rfl), (Nat.le_of_ble_eq_true rfl)⟩) hP hD hS hA [1, 2] [0, 3] rfl rfl (by decide +kernel) (by decide +kernel) (fun u2 H locs hp hP hD hS => ?_)
    obtain ⟨h3, h4, h5, y6, h7⟩ := u2
    have hp : (0 ≤ h3.toInt ∧ h3.toInt ≤ 1300 ∧ 0 ≤ h4.toInt ∧ h4.toInt ≤ 1300 ∧ 0 ≤ h5.toInt ∧ h5.toInt ≤ 4) := hp
    have hP : va_P G cl [(a0, .inr (2, [.ref a1, .ref a2, .int v_rd_2, .int v_rd_3, .int 1, .int v_rd_5, .int v_rd_6, .int v_rd_7])), (a2, .inr (7, [.int v_M_0, .int v_M_1, .int v_M_2, .ref a4, .ref a5, .int v_M_5, .ref a6, .ref a7, .ref a8, .ref a9, .ref a10, .ref a11, .ref a12, .ref a13, .ref a14])), (a1, .inr (5, [.ref a3, .int v_tp_1, .int h3, .int h4, .int h5, .long y6, .int h7])), (a3, .inl (cB, 1300, .inl g_tp_bytes))] H := hP
    have hD : va_D A [(a0, .inr (2, [.ref a1, .ref a2, .int v_rd_2, .int v_rd_3, .int 1, .int v_rd_5, .int v_rd_6, .int v_rd_7])), (a2, .inr (7, [.int v_M_0, .int v_M_1, .int v_M_2, .ref a4, .ref a5, .int v_M_5, .ref a6, .ref a7, .ref a8, .ref a9, .ref a10, .ref a11, .ref a12, .ref a13, .ref a14])), (a1, .inr (5, [.ref a3, .int v_tp_1, .int h3, .int h4, .int h5, .long y6, .int h7])), (a3, .inl (cB, 1300, .inl g_tp_bytes))] := hD
    have hq2 := hp
    refine lv_aload_n hx hb dX2_readFeel_25 rfl (lv_at hl 0 rfl) ?_
    refine lv_iconst (v := 0) hx hb dX2_readFeel_26 (by decide) ?_
    refine lv_bipush (v := 9) hx hb dX2_readFeel_27 (by decide) ?_
    have l_l9 : (1 : Int32).toInt = 1 := rfl
    refine k_ci (wr := [(a2, .inr (7, [.int v_M_0, .int v_M_1, .int v_M_2, .ref a4, .ref a5, .int v_M_5, .ref a6, .ref a7, .ref a8, .ref a9, .ref a10, .ref a11, .ref a12, .ref a13, .ref a14]))]) (k_rV hC hN hZ hS hA hK hP hD (c53_X2_takeNumber l G cI cJ cB cZ a0 a1 a2 a3 v_rd_2 v_rd_3 1 v_rd_5 v_rd_6 v_rd_7 v_tp_1 h3 h4 h5 y6 h7 g_tp_bytes hv_0 hv_1 (by omega) (by omega) hv_4 hv_5 (by omega) (by omega) hT_g_tp_bytes) [0, 2, 3] rfl (by decide +kernel) mi_X2_takeNumber in_X2_takeNumber se_X2_takeNumber wm_X2_107 2 0 rfl rfl rfl hl.1 rfl rfl (Nat.le_of_ble_eq_true rfl) ⟨(Nat.le_of_ble_eq_true rfl), (Nat.le_of_ble_eq_true rfl)⟩ dX2_readFeel_29 ⟨(Nat.le_of_ble_eq_true rfl), (Nat.le_of_ble_eq_true rfl)⟩) hP hD hS hA [0, 2, 3] [1] rfl rfl (by decide +kernel) (by decide +kernel) (fun r8 u8 H locs hp hP hD hS => ?_)
    obtain ⟨h10, h11, h12, h13, h14, h15, y16, h17⟩ := u8
    have hP : va_P G cl [(a2, .inr (7, [.int v_M_0, .int v_M_1, .int v_M_2, .ref a4, .ref a5, .int v_M_5, .ref a6, .ref a7, .ref a8, .ref a9, .ref a10, .ref a11, .ref a12, .ref a13, .ref a14])), (a0, .inr (2, [.ref a1, .ref a2, .int h10, .int v_rd_3, .int 1, .int v_rd_5, .int h11, .int h12])), (a1, .inr (5, [.ref a3, .int v_tp_1, .int h13, .int h14, .int h15, .long y16, .int h17])), (a3, .inl (cB, 1300, .inl g_tp_bytes))] H := hP
    have hD : va_D A [(a2, .inr (7, [.int v_M_0, .int v_M_1, .int v_M_2, .ref a4, .ref a5, .int v_M_5, .ref a6, .ref a7, .ref a8, .ref a9, .ref a10, .ref a11, .ref a12, .ref a13, .ref a14])), (a0, .inr (2, [.ref a1, .ref a2, .int h10, .int v_rd_3, .int 1, .int v_rd_5, .int h11, .int h12])), (a1, .inr (5, [.ref a3, .int v_tp_1, .int h13, .int h14, .int h15, .long y16, .int h17])), (a3, .inl (cB, 1300, .inl g_tp_bytes))] := hD
    rcases (show (r8 = 0 ∧ (0 ≤ h13.toInt ∧ h13.toInt ≤ 1300)) ∨ (r8 = 1 ∧ (0 ≤ h10.toInt ∧ h10.toInt ≤ 9 ∧ 0 ≤ h13.toInt ∧ h13.toInt ≤ 1300 ∧ 0 ≤ h14.toInt ∧ h14.toInt ≤ 1300 ∧ 0 ≤ h15.toInt ∧ h15.toInt ≤ 4)) from hp) with ⟨rfl, hq8⟩ | ⟨rfl, hq8⟩
    · clear hp
      have l_8 : (0 : Int32).toInt = 0 := rfl
      refine lv_if_ne (tgt := 37) hx hb dX2_readFeel_32 (by decide) (fun c_ => absurd (by decide +kernel) c_) (fun _ => ?_)
      refine lv_iconst (v := 0) hx hb dX2_readFeel_35 (by decide) ?_
      have l_l18 : (1 : Int32).toInt = 1 := rfl
      have l_l19 : (0 : Int32).toInt = 0 := rfl
      rw [← hQm]
      exact k_zret hC hr hlk hK hP hD hS (h10, 1, h11, h12, h13, h14, h15, y16, h17, v_M_2) [1, 2, 3, 0] rfl (by decide +kernel) rfl (show 0 ≤ (0 : Int32).toInt ∧ (0 : Int32).toInt ≤ 1 ∧ 1 ≤ (1 : Int32).toInt ∧ (1 : Int32).toInt ≤ 1 ∧ 0 ≤ h13.toInt ∧ h13.toInt ≤ 1300 from by omega) (Nat.le_of_ble_eq_true rfl) (Nat.le_of_ble_eq_true rfl) dX2_readFeel_36
    · clear hp
      have l_8 : (1 : Int32).toInt = 1 := rfl
      refine lv_if_ne (tgt := 37) hx hb dX2_readFeel_32 (by decide) (fun _ => ?_) (fun c_ => absurd c_ (by decide +kernel))
      refine lv_aload_n hx hb dX2_readFeel_37 rfl (lv_at hl 0 rfl) ?_
      refine k_get hC hK hP iX2 1 1 wf_X2_21 rfl (by decide) rfl rfl dX2_readFeel_38 ?_
      refine lv_aload_n hx hb dX2_readFeel_41 rfl (lv_at hl 0 rfl) ?_
      refine k_get hC hK hP iX2 1 2 wf_X2_25 rfl (by decide) rfl rfl dX2_readFeel_42 ?_
      refine k_putN hC hN hK hP hD hS iX7 tyX7_ok nmX7 0 2 wf_X2_131 rfl (by decide) rfl rfl rfl rfl (Nat.le_of_ble_eq_true rfl) dX2_readFeel_45 (fun H locs hP hD hS => ?_)
      have hP : va_P G cl [(a2, .inr (7, [.int v_M_0, .int v_M_1, .int h10, .ref a4, .ref a5, .int v_M_5, .ref a6, .ref a7, .ref a8, .ref a9, .ref a10, .ref a11, .ref a12, .ref a13, .ref a14])), (a0, .inr (2, [.ref a1, .ref a2, .int h10, .int v_rd_3, .int 1, .int v_rd_5, .int h11, .int h12])), (a1, .inr (5, [.ref a3, .int v_tp_1, .int h13, .int h14, .int h15, .long y16, .int h17])), (a3, .inl (cB, 1300, .inl g_tp_bytes))] H := hP
      have hD : va_D A [(a2, .inr (7, [.int v_M_0, .int v_M_1, .int h10, .ref a4, .ref a5, .int v_M_5, .ref a6, .ref a7, .ref a8, .ref a9, .ref a10, .ref a11, .ref a12, .ref a13, .ref a14])), (a0, .inr (2, [.ref a1, .ref a2, .int h10, .int v_rd_3, .int 1, .int v_rd_5, .int h11, .int h12])), (a1, .inr (5, [.ref a3, .int v_tp_1, .int h13, .int h14, .int h15, .long y16, .int h17])), (a3, .inl (cB, 1300, .inl g_tp_bytes))] := hD
      refine lv_aload_n hx hb dX2_readFeel_48 rfl (lv_at hl 0 rfl) ?_
      have l_l21 : (1 : Int32).toInt = 1 := rfl
      refine k_ci (wr := [(a2, .inr (7, [.int v_M_0, .int v_M_1, .int h10, .ref a4, .ref a5, .int v_M_5, .ref a6, .ref a7, .ref a8, .ref a9, .ref a10, .ref a11, .ref a12, .ref a13, .ref a14]))]) (k_rV hC hN hZ hS hA hK hP hD (c51_X2_takeSign l G cI cJ cB cZ a0 a1 a2 a3 h10 v_rd_3 1 v_rd_5 h11 h12 v_tp_1 h13 h14 h15 y16 h17 g_tp_bytes hv_0 hv_1 (by omega) (by omega) hv_4 hv_5 (by omega) (by omega) hT_g_tp_bytes) [1, 2, 3] rfl (by decide +kernel) mi_X2_takeSign in_X2_takeSign se_X2_takeSign wm_X2_128 2 1 rfl rfl rfl hl.1 rfl rfl (Nat.le_of_ble_eq_true rfl) ⟨(Nat.le_of_ble_eq_true rfl), (Nat.le_of_ble_eq_true rfl)⟩ dX2_readFeel_49 ⟨(Nat.le_of_ble_eq_true rfl), (Nat.le_of_ble_eq_true rfl)⟩) hP hD hS hA [1, 2, 3] [0] rfl rfl (by decide +kernel) (by decide +kernel) (fun r20 u20 H locs hp hP hD hS => ?_)
      obtain ⟨h22, h23, h24, h25, h26, y27, h28⟩ := u20
      have hp : (0 ≤ r20.toInt ∧ r20.toInt ≤ 1 ∧ 0 ≤ h24.toInt ∧ h24.toInt ≤ 1300) := hp
      have hP : va_P G cl [(a2, .inr (7, [.int v_M_0, .int v_M_1, .int h10, .ref a4, .ref a5, .int v_M_5, .ref a6, .ref a7, .ref a8, .ref a9, .ref a10, .ref a11, .ref a12, .ref a13, .ref a14])), (a0, .inr (2, [.ref a1, .ref a2, .int h10, .int v_rd_3, .int 1, .int v_rd_5, .int h22, .int h23])), (a1, .inr (5, [.ref a3, .int v_tp_1, .int h24, .int h25, .int h26, .long y27, .int h28])), (a3, .inl (cB, 1300, .inl g_tp_bytes))] H := hP
      have hD : va_D A [(a2, .inr (7, [.int v_M_0, .int v_M_1, .int h10, .ref a4, .ref a5, .int v_M_5, .ref a6, .ref a7, .ref a8, .ref a9, .ref a10, .ref a11, .ref a12, .ref a13, .ref a14])), (a0, .inr (2, [.ref a1, .ref a2, .int h10, .int v_rd_3, .int 1, .int v_rd_5, .int h22, .int h23])), (a1, .inr (5, [.ref a3, .int v_tp_1, .int h24, .int h25, .int h26, .long y27, .int h28])), (a3, .inl (cB, 1300, .inl g_tp_bytes))] := hD
      have hq20 := hp
      have l_l29 : (1 : Int32).toInt = 1 := rfl
      rw [← hQm]
      exact k_zret hC hr hlk hK hP hD hS (h10, 1, h22, h23, h24, h25, h26, y27, h28, h10) [1, 2, 3, 0] rfl (by decide +kernel) (nar_bool (by omega) (by omega)) (show 0 ≤ r20.toInt ∧ r20.toInt ≤ 1 ∧ 1 ≤ (1 : Int32).toInt ∧ (1 : Int32).toInt ≤ 1 ∧ 0 ≤ h24.toInt ∧ h24.toInt ≤ 1300 from by omega) (Nat.le_of_ble_eq_true rfl) (Nat.le_of_ble_eq_true rfl) dX2_readFeel_52
  · have dc1 : v_rd_4.toInt ≠ 0 := fa_ne c1
    refine lv_aload_n hx hb dX2_readFeel_7 rfl (lv_at hl 0 rfl) ?_
    refine lv_iconst (v := 2) hx hb dX2_readFeel_8 (by decide) ?_
    have l_l31 : (2 : Int32).toInt = 2 := rfl
    refine k_ci (wr := [(a3, .inl (cB, 1300, .inl g_tp_bytes)), (a2, .inr (7, [.int v_M_0, .int v_M_1, .int v_M_2, .ref a4, .ref a5, .int v_M_5, .ref a6, .ref a7, .ref a8, .ref a9, .ref a10, .ref a11, .ref a12, .ref a13, .ref a14]))]) (k_rV hC hN hZ hS hA hK hP hD (c47_X2_refuse l G cI cJ cB cZ a0 a1 a2 a3 2 v_rd_2 v_rd_3 v_rd_4 v_rd_5 v_rd_6 v_rd_7 v_tp_1 v_tp_2 v_tp_3 v_tp_4 w_tp_5 v_tp_6 hv_0 hv_1 hv_2 hv_3 hv_4 hv_5 hv_6 hv_7) [0, 1] rfl (by decide +kernel) mi_X2_refuse in_X2_refuse se_X2_refuse wm_X2_100 2 0 rfl rfl rfl hl.1 rfl rfl (Nat.le_of_ble_eq_true rfl) ⟨(Nat.le_of_ble_eq_true rfl), (Nat.le_of_ble_eq_true rfl)⟩ dX2_readFeel_9 ⟨(Nat.le_of_ble_eq_true rfl), (Nat.le_of_ble_eq_true rfl)⟩) hP hD hS hA [0, 1] [2, 3] rfl rfl (by decide +kernel) (by decide +kernel) (fun r30 u30 H locs hp hP hD hS => ?_)
    obtain ⟨h32, h33⟩ := u30
    have hp : (r30 = 0 ∧ True) := hp
    obtain rfl : r30 = 0 := hp.1
    have hP : va_P G cl [(a3, .inl (cB, 1300, .inl g_tp_bytes)), (a2, .inr (7, [.int v_M_0, .int v_M_1, .int v_M_2, .ref a4, .ref a5, .int v_M_5, .ref a6, .ref a7, .ref a8, .ref a9, .ref a10, .ref a11, .ref a12, .ref a13, .ref a14])), (a0, .inr (2, [.ref a1, .ref a2, .int v_rd_2, .int v_rd_3, .int v_rd_4, .int v_rd_5, .int h32, .int h33])), (a1, .inr (5, [.ref a3, .int v_tp_1, .int v_tp_2, .int v_tp_3, .int v_tp_4, .long w_tp_5, .int v_tp_6]))] H := hP
    have hD : va_D A [(a3, .inl (cB, 1300, .inl g_tp_bytes)), (a2, .inr (7, [.int v_M_0, .int v_M_1, .int v_M_2, .ref a4, .ref a5, .int v_M_5, .ref a6, .ref a7, .ref a8, .ref a9, .ref a10, .ref a11, .ref a12, .ref a13, .ref a14])), (a0, .inr (2, [.ref a1, .ref a2, .int v_rd_2, .int v_rd_3, .int v_rd_4, .int v_rd_5, .int h32, .int h33])), (a1, .inr (5, [.ref a3, .int v_tp_1, .int v_tp_2, .int v_tp_3, .int v_tp_4, .long w_tp_5, .int v_tp_6]))] := hD
    have hq30 := hp
    have l_l34 : (0 : Int32).toInt = 0 := rfl
    rw [← hQm]
    exact k_zret hC hr hlk hK hP hD hS (v_rd_2, v_rd_4, h32, h33, v_tp_2, v_tp_3, v_tp_4, w_tp_5, v_tp_6, v_M_2) [2, 3, 0, 1] rfl (by decide +kernel) rfl (show 0 ≤ (0 : Int32).toInt ∧ (0 : Int32).toInt ≤ 1 ∧ 1 ≤ v_rd_4.toInt ∧ v_rd_4.toInt ≤ 1 ∧ 0 ≤ v_tp_2.toInt ∧ v_tp_2.toInt ≤ 1300 from by omega) (Nat.le_of_ble_eq_true rfl) (Nat.le_of_ble_eq_true rfl) dX2_readFeel_12
theorem dX2_isPoundTold_0 : decode cX2_isPoundTold 0 = .ok (.aload_n 0, 1) := by decide +kernel
theorem dX2_isPoundTold_1 : decode cX2_isPoundTold 1 = .ok (.getfield 12, 3) := by decide +kernel
theorem dX2_isPoundTold_4 : decode cX2_isPoundTold 4 = .ok (.getfield 51, 3) := by decide +kernel
theorem dX2_isPoundTold_7 : decode cX2_isPoundTold 7 = .ok (.iconst 2, 1) := by decide +kernel
theorem dX2_isPoundTold_8 : decode cX2_isPoundTold 8 = .ok (.if_icmp .ne 35, 3) := by decide +kernel
theorem dX2_isPoundTold_43 : decode cX2_isPoundTold 43 = .ok (.iconst 0, 1) := by decide +kernel
theorem dX2_isPoundTold_44 : decode cX2_isPoundTold 44 = .ok (.ireturn, 1) := by decide +kernel
theorem dX2_isPoundTold_11 : decode cX2_isPoundTold 11 = .ok (.aload_n 0, 1) := by decide +kernel
theorem dX2_isPoundTold_12 : decode cX2_isPoundTold 12 = .ok (.getfield 12, 3) := by decide +kernel
theorem dX2_isPoundTold_15 : decode cX2_isPoundTold 15 = .ok (.getfield 146, 3) := by decide +kernel
theorem dX2_isPoundTold_18 : decode cX2_isPoundTold 18 = .ok (.iconst 2, 1) := by decide +kernel
theorem dX2_isPoundTold_19 : decode cX2_isPoundTold 19 = .ok (.if_icmp .ge 24, 3) := by decide +kernel
theorem dX2_isPoundTold_22 : decode cX2_isPoundTold 22 = .ok (.aload_n 0, 1) := by decide +kernel
theorem dX2_isPoundTold_23 : decode cX2_isPoundTold 23 = .ok (.getfield 36, 3) := by decide +kernel
set_option maxRecDepth 100000 in
theorem wf_X2_36 : Cond.fieldLink RX2 36 "StoneTrust$Reader" "poundsTold" "I" ∈ gw := gm (List.mem_of_getElem? (i := 345) (by decide +kernel)) rfl
theorem dX2_isPoundTold_26 : decode cX2_isPoundTold 26 = .ok (.aload_n 0, 1) := by decide +kernel
theorem dX2_isPoundTold_27 : decode cX2_isPoundTold 27 = .ok (.getfield 12, 3) := by decide +kernel
theorem dX2_isPoundTold_30 : decode cX2_isPoundTold 30 = .ok (.getfield 146, 3) := by decide +kernel
theorem dX2_isPoundTold_33 : decode cX2_isPoundTold 33 = .ok (.ishr, 1) := by decide +kernel
theorem dX2_isPoundTold_34 : decode cX2_isPoundTold 34 = .ok (.iconst 1, 1) := by decide +kernel
theorem dX2_isPoundTold_35 : decode cX2_isPoundTold 35 = .ok (.iand, 1) := by decide +kernel
theorem dX2_isPoundTold_36 : decode cX2_isPoundTold 36 = .ok (.ifCond .eq 7, 3) := by decide +kernel
theorem dX2_isPoundTold_39 : decode cX2_isPoundTold 39 = .ok (.iconst 1, 1) := by decide +kernel
theorem dX2_isPoundTold_40 : decode cX2_isPoundTold 40 = .ok (.goto 4, 3) := by decide +kernel
set_option maxHeartbeats 4000000 in
set_option maxRecDepth 100000 in
theorem c55_X2_isPoundTold (l : Launch) (G : va_G) (cI cJ cB cZ : ClassId) (a0 a1 a2 a3 : Nat) (v_rd_2 : Int32) (v_rd_3 : Int32) (v_rd_4 : Int32) (v_rd_5 : Int32) (v_rd_6 : Int32) (v_rd_7 : Int32) (v_tp_1 : Int32) (v_tp_2 : Int32) (v_tp_3 : Int32) (v_tp_4 : Int32) (w_tp_5 : Int64) (v_tp_6 : Int32) (hv_0 : 0 ≤ v_rd_3.toInt) (hv_1 : v_rd_3.toInt ≤ 1) (hv_2 : 0 ≤ v_rd_4.toInt) (hv_3 : v_rd_4.toInt ≤ 1) (hv_4 : 0 ≤ v_tp_1.toInt) (hv_5 : v_tp_1.toInt ≤ 1300) (hv_6 : 0 ≤ v_tp_2.toInt) (hv_7 : v_tp_2.toInt ≤ 1300) : Con l G (TY cI cJ cB cZ) yX2_isPoundTold cX2_isPoundTold 1 (some .boolean) ({ frames := 0, cells := 0, slots := 0, locals := 0 } : Room) [.ref a0] [(a0, .inr (2, [.ref a1, .ref a2, .int v_rd_2, .int v_rd_3, .int v_rd_4, .int v_rd_5, .int v_rd_6, .int v_rd_7])), (a1, .inr (5, [.ref a3, .int v_tp_1, .int v_tp_2, .int v_tp_3, .int v_tp_4, .long w_tp_5, .int v_tp_6]))] (QI G (TY cI cJ cB cZ) (fun (r : Int32) (u : Unit) => (0 ≤ r.toInt ∧ r.toInt ≤ 1)) (fun u : Unit => [(a0, .inr (2, [.ref a1, .ref a2, .int v_rd_2, .int v_rd_3, .int v_rd_4, .int v_rd_5, .int v_rd_6, .int v_rd_7])), (a1, .inr (5, [.ref a3, .int v_tp_1, .int v_tp_2, .int v_tp_3, .int v_tp_4, .long w_tp_5, .int v_tp_6]))])) := by
  refine k_met (by decide) (Nat.le_of_ble_eq_true rfl) ?_
  intro p e s m below meth c A ls hC hr hlk hnm hN hZ hK hA hP hD hS hl
  have hl : lv_has ls 1 [(0, .ref a0)] := hl
  generalize hQm : MQ below _ _ s _ _ A = Qm
  generalize (List.toArray _ : Array Value) = args at hC hQm ⊢
  obtain ⟨hx, hb, hml, hown, hts⟩ := id hC
  obtain ⟨H, hH⟩ : ∃ q, q = s.heap := ⟨_, rfl⟩
  obtain ⟨locs, hlo⟩ : ∃ q : List Loc, q = [] := ⟨_, rfl⟩
  have hP : va_P G cl [(a0, .inr (2, [.ref a1, .ref a2, .int v_rd_2, .int v_rd_3, .int v_rd_4, .int v_rd_5, .int v_rd_6, .int v_rd_7])), (a1, .inr (5, [.ref a3, .int v_tp_1, .int v_tp_2, .int v_tp_3, .int v_tp_4, .long w_tp_5, .int v_tp_6]))] H := by rw [hH]; exact hP
  have hS : va_S A s.heap H locs := by rw [hH, hlo]; exact hS
  rw [← hlo]
  rw [← hH]
  refine lv_aload_n hx hb dX2_isPoundTold_0 rfl (lv_at hl 0 rfl) ?_
  refine k_get hC hK hP iX2 0 0 wf_X2_12 rfl (by decide) rfl rfl dX2_isPoundTold_1 ?_
  refine k_getN hC hN hK hP iX5 1 4 wf_X2_51 rfl (by decide) rfl rfl dX2_isPoundTold_4 ?_
  refine lv_iconst (v := 2) hx hb dX2_isPoundTold_7 (by decide) ?_
  refine lv_icmp_ne (tgt := 43) hx hb dX2_isPoundTold_8 (by decide) (fun c1 => ?_) (fun c1 => ?_)
  · have dc1 : v_tp_4.toInt ≠ 2 := fa_ne c1; have lbc1_0 := i_lo v_tp_4; have ubc1_0 := i_hi v_tp_4
    refine lv_iconst (v := 0) hx hb dX2_isPoundTold_43 (by decide) ?_
    have l_l2 : (0 : Int32).toInt = 0 := rfl
    rw [← hQm]
    exact k_zret hC hr hlk hK hP hD hS () [0, 1] rfl (by decide +kernel) rfl (show 0 ≤ (0 : Int32).toInt ∧ (0 : Int32).toInt ≤ 1 from by omega) (Nat.le_of_ble_eq_true rfl) (Nat.le_of_ble_eq_true rfl) dX2_isPoundTold_44
  · have dc1 : v_tp_4.toInt = 2 := (fa_eq _ _).mp c1; have lbc1_0 := i_lo v_tp_4; have ubc1_0 := i_hi v_tp_4
    refine lv_aload_n hx hb dX2_isPoundTold_11 rfl (lv_at hl 0 rfl) ?_
    refine k_get hC hK hP iX2 0 0 wf_X2_12 rfl (by decide) rfl rfl dX2_isPoundTold_12 ?_
    refine k_getN hC hN hK hP iX5 1 6 wf_X2_146 rfl (by decide) rfl rfl dX2_isPoundTold_15 ?_
    refine lv_iconst (v := 2) hx hb dX2_isPoundTold_18 (by decide) ?_
    refine lv_icmp_ge (tgt := 43) hx hb dX2_isPoundTold_19 (by decide) (fun c3 => ?_) (fun c3 => ?_)
    · have dc3 : 2 ≤ v_tp_6.toInt := (fa_le _ _).mp c3; have lbc3_1 := i_lo v_tp_6; have ubc3_1 := i_hi v_tp_6
      refine lv_iconst (v := 0) hx hb dX2_isPoundTold_43 (by decide) ?_
      have l_l4 : (0 : Int32).toInt = 0 := rfl
      rw [← hQm]
      exact k_zret hC hr hlk hK hP hD hS () [0, 1] rfl (by decide +kernel) rfl (show 0 ≤ (0 : Int32).toInt ∧ (0 : Int32).toInt ≤ 1 from by omega) (Nat.le_of_ble_eq_true rfl) (Nat.le_of_ble_eq_true rfl) dX2_isPoundTold_44
    · have dc3 : v_tp_6.toInt < 2 := fa_nle c3; have lbc3_1 := i_lo v_tp_6; have ubc3_1 := i_hi v_tp_6
      refine lv_aload_n hx hb dX2_isPoundTold_22 rfl (lv_at hl 0 rfl) ?_
      refine k_get hC hK hP iX2 0 5 wf_X2_36 rfl (by decide) rfl rfl dX2_isPoundTold_23 ?_
      refine lv_aload_n hx hb dX2_isPoundTold_26 rfl (lv_at hl 0 rfl) ?_
      refine k_get hC hK hP iX2 0 0 wf_X2_12 rfl (by decide) rfl rfl dX2_isPoundTold_27 ?_
      refine k_getN hC hN hK hP iX5 1 6 wf_X2_146 rfl (by decide) rfl rfl dX2_isPoundTold_30 ?_
      refine lv_ishr hx hb dX2_isPoundTold_33 ?_
      refine lv_topi (fun z5 _ => ?_)
      refine lv_iconst (v := 1) hx hb dX2_isPoundTold_34 (by decide) ?_
      refine lv_iand hx hb dX2_isPoundTold_35 ?_
      refine t_i (fun q => 0 ≤ q.toInt ∧ q.toInt ≤ 1) (by have h_ := and_b (x := z5) (y := 1) (by decide); exact h_) (fun z6 tz6 => ?_)
      refine lv_if_eq (tgt := 43) hx hb dX2_isPoundTold_36 (by decide) (fun c7 => ?_) (fun c7 => ?_)
      · have dc7 : z6.toInt = 0 := (fa_eq _ _).mp c7
        refine lv_iconst (v := 0) hx hb dX2_isPoundTold_43 (by decide) ?_
        have l_l8 : (0 : Int32).toInt = 0 := rfl
        rw [← hQm]
        exact k_zret hC hr hlk hK hP hD hS () [0, 1] rfl (by decide +kernel) rfl (show 0 ≤ (0 : Int32).toInt ∧ (0 : Int32).toInt ≤ 1 from by omega) (Nat.le_of_ble_eq_true rfl) (Nat.le_of_ble_eq_true rfl) dX2_isPoundTold_44
      · have dc7 : z6.toInt ≠ 0 := fa_ne c7
        refine lv_iconst (v := 1) hx hb dX2_isPoundTold_39 (by decide) ?_
        refine lv_goto (tgt := 44) hx hb dX2_isPoundTold_40 (by decide) ?_
        have l_l9 : (1 : Int32).toInt = 1 := rfl
        rw [← hQm]
        exact k_zret hC hr hlk hK hP hD hS () [0, 1] rfl (by decide +kernel) rfl (show 0 ≤ (1 : Int32).toInt ∧ (1 : Int32).toInt ≤ 1 from by omega) (Nat.le_of_ble_eq_true rfl) (Nat.le_of_ble_eq_true rfl) dX2_isPoundTold_44
set_option maxHeartbeats 4000000 in
set_option maxRecDepth 100000 in
theorem c56_X2_takeNumber (l : Launch) (G : va_G) (cI cJ cB cZ : ClassId) (a0 a1 a2 a3 : Nat) (v_rd_2 : Int32) (v_rd_3 : Int32) (v_rd_4 : Int32) (v_rd_5 : Int32) (v_rd_6 : Int32) (v_rd_7 : Int32) (v_tp_1 : Int32) (v_tp_2 : Int32) (v_tp_3 : Int32) (v_tp_4 : Int32) (w_tp_5 : Int64) (v_tp_6 : Int32) (g_tp_bytes : Nat → Int32) (hv_0 : 0 ≤ v_rd_3.toInt) (hv_1 : v_rd_3.toInt ≤ 1) (hv_2 : 0 ≤ v_rd_4.toInt) (hv_3 : v_rd_4.toInt ≤ 1) (hv_4 : 0 ≤ v_tp_1.toInt) (hv_5 : v_tp_1.toInt ≤ 1300) (hv_6 : 0 ≤ v_tp_2.toInt) (hv_7 : v_tp_2.toInt ≤ 1300) (hT_g_tp_bytes : TA (-128) 127 g_tp_bytes) : Con l G (TY cI cJ cB cZ) yX2_takeNumber cX2_takeNumber 3 (some .boolean) ({ frames := 3, cells := 0, slots := 0, locals := 61 } : Room) [.ref a0, .int 0, .int 1] [(a0, .inr (2, [.ref a1, .ref a2, .int v_rd_2, .int v_rd_3, .int v_rd_4, .int v_rd_5, .int v_rd_6, .int v_rd_7])), (a1, .inr (5, [.ref a3, .int v_tp_1, .int v_tp_2, .int v_tp_3, .int v_tp_4, .long w_tp_5, .int v_tp_6])), (a3, .inl (cB, 1300, .inl g_tp_bytes))] (QI G (TY cI cJ cB cZ) (fun (r : Int32) (u : Int32 × Int32 × Int32 × Int32 × Int32 × Int32 × Int64 × Int32) => (r = 0 ∧ (0 ≤ u.2.2.2.1.toInt ∧ u.2.2.2.1.toInt ≤ 1300)) ∨ (r = 1 ∧ (0 ≤ u.1.toInt ∧ u.1.toInt ≤ 1 ∧ 0 ≤ u.2.2.2.1.toInt ∧ u.2.2.2.1.toInt ≤ 1300 ∧ 0 ≤ u.2.2.2.2.1.toInt ∧ u.2.2.2.2.1.toInt ≤ 1300 ∧ 0 ≤ u.2.2.2.2.2.1.toInt ∧ u.2.2.2.2.2.1.toInt ≤ 4))) (fun u : Int32 × Int32 × Int32 × Int32 × Int32 × Int32 × Int64 × Int32 => [(a0, .inr (2, [.ref a1, .ref a2, .int u.1, .int v_rd_3, .int v_rd_4, .int v_rd_5, .int u.2.1, .int u.2.2.1])), (a1, .inr (5, [.ref a3, .int v_tp_1, .int u.2.2.2.1, .int u.2.2.2.2.1, .int u.2.2.2.2.2.1, .long u.2.2.2.2.2.2.1, .int u.2.2.2.2.2.2.2])), (a3, .inl (cB, 1300, .inl g_tp_bytes))])) := by
  refine k_met (by decide) (Nat.le_of_ble_eq_true rfl) ?_
  intro p e s m below meth c A ls hC hr hlk hnm hN hZ hK hA hP hD hS hl
  have hl : lv_has ls 3 [(0, .ref a0), (1, .int 0), (2, .int 1)] := hl
  generalize hQm : MQ below _ _ s _ _ A = Qm
  generalize (List.toArray _ : Array Value) = args at hC hQm ⊢
  obtain ⟨hx, hb, hml, hown, hts⟩ := id hC
  obtain ⟨H, hH⟩ : ∃ q, q = s.heap := ⟨_, rfl⟩
  obtain ⟨locs, hlo⟩ : ∃ q : List Loc, q = [] := ⟨_, rfl⟩
  have hP : va_P G cl [(a0, .inr (2, [.ref a1, .ref a2, .int v_rd_2, .int v_rd_3, .int v_rd_4, .int v_rd_5, .int v_rd_6, .int v_rd_7])), (a1, .inr (5, [.ref a3, .int v_tp_1, .int v_tp_2, .int v_tp_3, .int v_tp_4, .long w_tp_5, .int v_tp_6])), (a3, .inl (cB, 1300, .inl g_tp_bytes))] H := by rw [hH]; exact hP
  have hS : va_S A s.heap H locs := by rw [hH, hlo]; exact hS
  rw [← hlo]
  rw [← hH]
  refine lv_aload_n hx hb dX2_takeNumber_0 rfl (lv_at hl 0 rfl) ?_
  refine k_get hC hK hP iX2 0 0 wf_X2_12 rfl (by decide) rfl rfl dX2_takeNumber_1 ?_
  refine k_getN hC hN hK hP iX5 1 4 wf_X2_51 rfl (by decide) rfl rfl dX2_takeNumber_4 ?_
  refine lv_iconst (v := 2) hx hb dX2_takeNumber_7 (by decide) ?_
  refine lv_icmp_eq (tgt := 17) hx hb dX2_takeNumber_8 (by decide) (fun c1 => ?_) (fun c1 => ?_)
  · have dc1 : v_tp_4.toInt = 2 := (fa_eq _ _).mp c1; have lbc1_0 := i_lo v_tp_4; have ubc1_0 := i_hi v_tp_4
    refine lv_aload_n hx hb dX2_takeNumber_17 rfl (lv_at hl 0 rfl) ?_
    refine k_get hC hK hP iX2 0 0 wf_X2_12 rfl (by decide) rfl rfl dX2_takeNumber_18 ?_
    refine k_getN hC hN hK hP iX5 1 6 wf_X2_146 rfl (by decide) rfl rfl dX2_takeNumber_21 ?_
    refine lv_iload_n hx hb dX2_takeNumber_24 rfl (lv_at hl 1 rfl) ?_
    refine lv_icmp_lt (tgt := 39) hx hb dX2_takeNumber_25 (by decide) (fun c2 => ?_) (fun c2 => ?_)
    · have dc2 : v_tp_6.toInt < 0 := (fa_lt _ _).mp c2; have lbc2_0 := i_lo v_tp_6; have ubc2_0 := i_hi v_tp_6
      refine lv_aload_n hx hb dX2_takeNumber_39 rfl (lv_at hl 0 rfl) ?_
      refine lv_iconst (v := 4) hx hb dX2_takeNumber_40 (by decide) ?_
      have l_l4 : (4 : Int32).toInt = 4 := rfl
      refine k_ci (wr := [(a3, .inl (cB, 1300, .inl g_tp_bytes))]) (k_rV hC hN hZ hS hA hK hP hD (c47_X2_refuse l G cI cJ cB cZ a0 a1 a2 a3 4 v_rd_2 v_rd_3 v_rd_4 v_rd_5 v_rd_6 v_rd_7 v_tp_1 v_tp_2 v_tp_3 v_tp_4 w_tp_5 v_tp_6 hv_0 hv_1 hv_2 hv_3 hv_4 hv_5 hv_6 hv_7) [0, 1] rfl (by decide +kernel) mi_X2_refuse in_X2_refuse se_X2_refuse wm_X2_100 2 0 rfl rfl rfl hl.1 rfl rfl (Nat.le_of_ble_eq_true rfl) ⟨(Nat.le_of_ble_eq_true rfl), (Nat.le_of_ble_eq_true rfl)⟩ dX2_takeNumber_41 ⟨(Nat.le_of_ble_eq_true rfl), (Nat.le_of_ble_eq_true rfl)⟩) hP hD hS hA [0, 1] [2] rfl rfl (by decide +kernel) (by decide +kernel) (fun r3 u3 H locs hp hP hD hS => ?_)
      obtain ⟨h5, h6⟩ := u3
      have hp : (r3 = 0 ∧ True) := hp
      obtain rfl : r3 = 0 := hp.1
      have hP : va_P G cl [(a3, .inl (cB, 1300, .inl g_tp_bytes)), (a0, .inr (2, [.ref a1, .ref a2, .int v_rd_2, .int v_rd_3, .int v_rd_4, .int v_rd_5, .int h5, .int h6])), (a1, .inr (5, [.ref a3, .int v_tp_1, .int v_tp_2, .int v_tp_3, .int v_tp_4, .long w_tp_5, .int v_tp_6]))] H := hP
      have hD : va_D A [(a3, .inl (cB, 1300, .inl g_tp_bytes)), (a0, .inr (2, [.ref a1, .ref a2, .int v_rd_2, .int v_rd_3, .int v_rd_4, .int v_rd_5, .int h5, .int h6])), (a1, .inr (5, [.ref a3, .int v_tp_1, .int v_tp_2, .int v_tp_3, .int v_tp_4, .long w_tp_5, .int v_tp_6]))] := hD
      have hq3 := hp
      have l_l7 : (0 : Int32).toInt = 0 := rfl
      rw [← hQm]
      exact k_zret hC hr hlk hK hP hD hS (v_rd_2, h5, h6, v_tp_2, v_tp_3, v_tp_4, w_tp_5, v_tp_6) [1, 2, 0] rfl (by decide +kernel) rfl (Or.inl ⟨rfl, (show 0 ≤ v_tp_2.toInt ∧ v_tp_2.toInt ≤ 1300 from by omega)⟩) (Nat.le_of_ble_eq_true rfl) (Nat.le_of_ble_eq_true rfl) dX2_takeNumber_44
    · have dc2 : 0 ≤ v_tp_6.toInt := fa_nlt c2; have lbc2_0 := i_lo v_tp_6; have ubc2_0 := i_hi v_tp_6
      refine lv_aload_n hx hb dX2_takeNumber_28 rfl (lv_at hl 0 rfl) ?_
      refine k_get hC hK hP iX2 0 0 wf_X2_12 rfl (by decide) rfl rfl dX2_takeNumber_29 ?_
      refine k_getN hC hN hK hP iX5 1 6 wf_X2_146 rfl (by decide) rfl rfl dX2_takeNumber_32 ?_
      refine lv_iload_n hx hb dX2_takeNumber_35 rfl (lv_at hl 2 rfl) ?_
      refine lv_icmp_le (tgt := 45) hx hb dX2_takeNumber_36 (by decide) (fun c8 => ?_) (fun c8 => ?_)
      · have dc8 : v_tp_6.toInt ≤ 1 := (fa_le _ _).mp c8; have ubc8_0 := i_hi v_tp_6
        refine lv_aload_n hx hb dX2_takeNumber_45 rfl (lv_at hl 0 rfl) ?_
        refine lv_aload_n hx hb dX2_takeNumber_46 rfl (lv_at hl 0 rfl) ?_
        refine k_get hC hK hP iX2 0 0 wf_X2_12 rfl (by decide) rfl rfl dX2_takeNumber_47 ?_
        refine k_getN hC hN hK hP iX5 1 6 wf_X2_146 rfl (by decide) rfl rfl dX2_takeNumber_50 ?_
        refine k_put hC hK hP hD hS iX2 tyX2_ok nmX2 0 2 wf_X2_25 rfl (by decide) rfl rfl rfl rfl (Nat.le_of_ble_eq_true rfl) dX2_takeNumber_53 (fun H locs hP hD hS => ?_)
        have hP : va_P G cl [(a0, .inr (2, [.ref a1, .ref a2, .int v_tp_6, .int v_rd_3, .int v_rd_4, .int v_rd_5, .int v_rd_6, .int v_rd_7])), (a1, .inr (5, [.ref a3, .int v_tp_1, .int v_tp_2, .int v_tp_3, .int v_tp_4, .long w_tp_5, .int v_tp_6])), (a3, .inl (cB, 1300, .inl g_tp_bytes))] H := hP
        have hD : va_D A [(a0, .inr (2, [.ref a1, .ref a2, .int v_tp_6, .int v_rd_3, .int v_rd_4, .int v_rd_5, .int v_rd_6, .int v_rd_7])), (a1, .inr (5, [.ref a3, .int v_tp_1, .int v_tp_2, .int v_tp_3, .int v_tp_4, .long w_tp_5, .int v_tp_6])), (a3, .inl (cB, 1300, .inl g_tp_bytes))] := hD
        refine lv_aload_n hx hb dX2_takeNumber_56 rfl (lv_at hl 0 rfl) ?_
        refine k_get hC hK hP iX2 0 0 wf_X2_12 rfl (by decide) rfl rfl dX2_takeNumber_57 ?_
        refine k_cv (wr := [(a0, .inr (2, [.ref a1, .ref a2, .int v_tp_6, .int v_rd_3, .int v_rd_4, .int v_rd_5, .int v_rd_6, .int v_rd_7]))]) (k_rV hC hN hZ hS hA hK hP hD (c20_X5_advance l G cI cJ cB cZ a1 a3 v_tp_1 v_tp_2 v_tp_3 v_tp_4 w_tp_5 v_tp_6 g_tp_bytes hv_4 hv_5 hv_6 hv_7 hT_g_tp_bytes) [1, 2] rfl (by decide +kernel) mi_X5_advance in_X5_advance se_X5_advance wm_X2_104 5 1 rfl rfl rfl hl.1 rfl rfl (Nat.le_of_ble_eq_true rfl) ⟨(Nat.le_of_ble_eq_true rfl), (Nat.le_of_ble_eq_true rfl)⟩ dX2_takeNumber_60 ⟨(Nat.le_of_ble_eq_true rfl), (Nat.le_of_ble_eq_true rfl)⟩) hP hD hS hA [1, 2] [0] rfl rfl (by decide +kernel) (by decide +kernel) (fun u9 H locs hp hP hD hS => ?_)
        obtain ⟨h10, h11, h12, y13, h14⟩ := u9
        have hp : (0 ≤ h10.toInt ∧ h10.toInt ≤ 1300 ∧ 0 ≤ h11.toInt ∧ h11.toInt ≤ 1300 ∧ 0 ≤ h12.toInt ∧ h12.toInt ≤ 4) := hp
        have hP : va_P G cl [(a0, .inr (2, [.ref a1, .ref a2, .int v_tp_6, .int v_rd_3, .int v_rd_4, .int v_rd_5, .int v_rd_6, .int v_rd_7])), (a1, .inr (5, [.ref a3, .int v_tp_1, .int h10, .int h11, .int h12, .long y13, .int h14])), (a3, .inl (cB, 1300, .inl g_tp_bytes))] H := hP
        have hD : va_D A [(a0, .inr (2, [.ref a1, .ref a2, .int v_tp_6, .int v_rd_3, .int v_rd_4, .int v_rd_5, .int v_rd_6, .int v_rd_7])), (a1, .inr (5, [.ref a3, .int v_tp_1, .int h10, .int h11, .int h12, .long y13, .int h14])), (a3, .inl (cB, 1300, .inl g_tp_bytes))] := hD
        have hq9 := hp
        refine lv_iconst (v := 1) hx hb dX2_takeNumber_63 (by decide) ?_
        have l_l15 : (1 : Int32).toInt = 1 := rfl
        rw [← hQm]
        exact k_zret hC hr hlk hK hP hD hS (v_tp_6, v_rd_6, v_rd_7, h10, h11, h12, y13, h14) [0, 1, 2] rfl (by decide +kernel) rfl (Or.inr ⟨rfl, (show 0 ≤ v_tp_6.toInt ∧ v_tp_6.toInt ≤ 1 ∧ 0 ≤ h10.toInt ∧ h10.toInt ≤ 1300 ∧ 0 ≤ h11.toInt ∧ h11.toInt ≤ 1300 ∧ 0 ≤ h12.toInt ∧ h12.toInt ≤ 4 from by omega)⟩) (Nat.le_of_ble_eq_true rfl) (Nat.le_of_ble_eq_true rfl) dX2_takeNumber_64
      · have dc8 : 1 < v_tp_6.toInt := fa_nle c8; have ubc8_0 := i_hi v_tp_6
        refine lv_aload_n hx hb dX2_takeNumber_39 rfl (lv_at hl 0 rfl) ?_
        refine lv_iconst (v := 4) hx hb dX2_takeNumber_40 (by decide) ?_
        have l_l17 : (4 : Int32).toInt = 4 := rfl
        refine k_ci (wr := [(a3, .inl (cB, 1300, .inl g_tp_bytes))]) (k_rV hC hN hZ hS hA hK hP hD (c47_X2_refuse l G cI cJ cB cZ a0 a1 a2 a3 4 v_rd_2 v_rd_3 v_rd_4 v_rd_5 v_rd_6 v_rd_7 v_tp_1 v_tp_2 v_tp_3 v_tp_4 w_tp_5 v_tp_6 hv_0 hv_1 hv_2 hv_3 hv_4 hv_5 hv_6 hv_7) [0, 1] rfl (by decide +kernel) mi_X2_refuse in_X2_refuse se_X2_refuse wm_X2_100 2 0 rfl rfl rfl hl.1 rfl rfl (Nat.le_of_ble_eq_true rfl) ⟨(Nat.le_of_ble_eq_true rfl), (Nat.le_of_ble_eq_true rfl)⟩ dX2_takeNumber_41 ⟨(Nat.le_of_ble_eq_true rfl), (Nat.le_of_ble_eq_true rfl)⟩) hP hD hS hA [0, 1] [2] rfl rfl (by decide +kernel) (by decide +kernel) (fun r16 u16 H locs hp hP hD hS => ?_)
        obtain ⟨h18, h19⟩ := u16
        have hp : (r16 = 0 ∧ True) := hp
        obtain rfl : r16 = 0 := hp.1
        have hP : va_P G cl [(a3, .inl (cB, 1300, .inl g_tp_bytes)), (a0, .inr (2, [.ref a1, .ref a2, .int v_rd_2, .int v_rd_3, .int v_rd_4, .int v_rd_5, .int h18, .int h19])), (a1, .inr (5, [.ref a3, .int v_tp_1, .int v_tp_2, .int v_tp_3, .int v_tp_4, .long w_tp_5, .int v_tp_6]))] H := hP
        have hD : va_D A [(a3, .inl (cB, 1300, .inl g_tp_bytes)), (a0, .inr (2, [.ref a1, .ref a2, .int v_rd_2, .int v_rd_3, .int v_rd_4, .int v_rd_5, .int h18, .int h19])), (a1, .inr (5, [.ref a3, .int v_tp_1, .int v_tp_2, .int v_tp_3, .int v_tp_4, .long w_tp_5, .int v_tp_6]))] := hD
        have hq16 := hp
        have l_l20 : (0 : Int32).toInt = 0 := rfl
        rw [← hQm]
        exact k_zret hC hr hlk hK hP hD hS (v_rd_2, h18, h19, v_tp_2, v_tp_3, v_tp_4, w_tp_5, v_tp_6) [1, 2, 0] rfl (by decide +kernel) rfl (Or.inl ⟨rfl, (show 0 ≤ v_tp_2.toInt ∧ v_tp_2.toInt ≤ 1300 from by omega)⟩) (Nat.le_of_ble_eq_true rfl) (Nat.le_of_ble_eq_true rfl) dX2_takeNumber_44
  · have dc1 : v_tp_4.toInt ≠ 2 := fa_ne c1; have lbc1_0 := i_lo v_tp_4; have ubc1_0 := i_hi v_tp_4
    refine lv_aload_n hx hb dX2_takeNumber_11 rfl (lv_at hl 0 rfl) ?_
    refine lv_iconst (v := 2) hx hb dX2_takeNumber_12 (by decide) ?_
    have l_l22 : (2 : Int32).toInt = 2 := rfl
    refine k_ci (wr := [(a3, .inl (cB, 1300, .inl g_tp_bytes))]) (k_rV hC hN hZ hS hA hK hP hD (c47_X2_refuse l G cI cJ cB cZ a0 a1 a2 a3 2 v_rd_2 v_rd_3 v_rd_4 v_rd_5 v_rd_6 v_rd_7 v_tp_1 v_tp_2 v_tp_3 v_tp_4 w_tp_5 v_tp_6 hv_0 hv_1 hv_2 hv_3 hv_4 hv_5 hv_6 hv_7) [0, 1] rfl (by decide +kernel) mi_X2_refuse in_X2_refuse se_X2_refuse wm_X2_100 2 0 rfl rfl rfl hl.1 rfl rfl (Nat.le_of_ble_eq_true rfl) ⟨(Nat.le_of_ble_eq_true rfl), (Nat.le_of_ble_eq_true rfl)⟩ dX2_takeNumber_13 ⟨(Nat.le_of_ble_eq_true rfl), (Nat.le_of_ble_eq_true rfl)⟩) hP hD hS hA [0, 1] [2] rfl rfl (by decide +kernel) (by decide +kernel) (fun r21 u21 H locs hp hP hD hS => ?_)
    obtain ⟨h23, h24⟩ := u21
    have hp : (r21 = 0 ∧ True) := hp
    obtain rfl : r21 = 0 := hp.1
    have hP : va_P G cl [(a3, .inl (cB, 1300, .inl g_tp_bytes)), (a0, .inr (2, [.ref a1, .ref a2, .int v_rd_2, .int v_rd_3, .int v_rd_4, .int v_rd_5, .int h23, .int h24])), (a1, .inr (5, [.ref a3, .int v_tp_1, .int v_tp_2, .int v_tp_3, .int v_tp_4, .long w_tp_5, .int v_tp_6]))] H := hP
    have hD : va_D A [(a3, .inl (cB, 1300, .inl g_tp_bytes)), (a0, .inr (2, [.ref a1, .ref a2, .int v_rd_2, .int v_rd_3, .int v_rd_4, .int v_rd_5, .int h23, .int h24])), (a1, .inr (5, [.ref a3, .int v_tp_1, .int v_tp_2, .int v_tp_3, .int v_tp_4, .long w_tp_5, .int v_tp_6]))] := hD
    have hq21 := hp
    have l_l25 : (0 : Int32).toInt = 0 := rfl
    rw [← hQm]
    exact k_zret hC hr hlk hK hP hD hS (v_rd_2, h23, h24, v_tp_2, v_tp_3, v_tp_4, w_tp_5, v_tp_6) [1, 2, 0] rfl (by decide +kernel) rfl (Or.inl ⟨rfl, (show 0 ≤ v_tp_2.toInt ∧ v_tp_2.toInt ≤ 1300 from by omega)⟩) (Nat.le_of_ble_eq_true rfl) (Nat.le_of_ble_eq_true rfl) dX2_takeNumber_16
set_option maxHeartbeats 4000000 in
set_option maxRecDepth 100000 in
theorem c57_X2_takeNumber (l : Launch) (G : va_G) (cI cJ cB cZ : ClassId) (a0 a1 a2 a3 : Nat) (v_rd_2 : Int32) (v_rd_3 : Int32) (v_rd_4 : Int32) (v_rd_5 : Int32) (v_rd_6 : Int32) (v_rd_7 : Int32) (v_tp_1 : Int32) (v_tp_2 : Int32) (v_tp_3 : Int32) (v_tp_4 : Int32) (w_tp_5 : Int64) (v_tp_6 : Int32) (g_tp_bytes : Nat → Int32) (hv_0 : 0 ≤ v_rd_3.toInt) (hv_1 : v_rd_3.toInt ≤ 1) (hv_2 : 0 ≤ v_rd_4.toInt) (hv_3 : v_rd_4.toInt ≤ 1) (hv_4 : 0 ≤ v_tp_1.toInt) (hv_5 : v_tp_1.toInt ≤ 1300) (hv_6 : 0 ≤ v_tp_2.toInt) (hv_7 : v_tp_2.toInt ≤ 1300) (hT_g_tp_bytes : TA (-128) 127 g_tp_bytes) : Con l G (TY cI cJ cB cZ) yX2_takeNumber cX2_takeNumber 3 (some .boolean) ({ frames := 3, cells := 0, slots := 0, locals := 61 } : Room) [.ref a0, .int 1, .int 40] [(a0, .inr (2, [.ref a1, .ref a2, .int v_rd_2, .int v_rd_3, .int v_rd_4, .int v_rd_5, .int v_rd_6, .int v_rd_7])), (a1, .inr (5, [.ref a3, .int v_tp_1, .int v_tp_2, .int v_tp_3, .int v_tp_4, .long w_tp_5, .int v_tp_6])), (a3, .inl (cB, 1300, .inl g_tp_bytes))] (QI G (TY cI cJ cB cZ) (fun (r : Int32) (u : Int32 × Int32 × Int32 × Int32 × Int32 × Int32 × Int64 × Int32) => (r = 0 ∧ (0 ≤ u.2.2.2.1.toInt ∧ u.2.2.2.1.toInt ≤ 1300)) ∨ (r = 1 ∧ (1 ≤ u.1.toInt ∧ u.1.toInt ≤ 40 ∧ 0 ≤ u.2.2.2.1.toInt ∧ u.2.2.2.1.toInt ≤ 1300 ∧ 0 ≤ u.2.2.2.2.1.toInt ∧ u.2.2.2.2.1.toInt ≤ 1300 ∧ 0 ≤ u.2.2.2.2.2.1.toInt ∧ u.2.2.2.2.2.1.toInt ≤ 4))) (fun u : Int32 × Int32 × Int32 × Int32 × Int32 × Int32 × Int64 × Int32 => [(a0, .inr (2, [.ref a1, .ref a2, .int u.1, .int v_rd_3, .int v_rd_4, .int v_rd_5, .int u.2.1, .int u.2.2.1])), (a1, .inr (5, [.ref a3, .int v_tp_1, .int u.2.2.2.1, .int u.2.2.2.2.1, .int u.2.2.2.2.2.1, .long u.2.2.2.2.2.2.1, .int u.2.2.2.2.2.2.2])), (a3, .inl (cB, 1300, .inl g_tp_bytes))])) := by
  refine k_met (by decide) (Nat.le_of_ble_eq_true rfl) ?_
  intro p e s m below meth c A ls hC hr hlk hnm hN hZ hK hA hP hD hS hl
  have hl : lv_has ls 3 [(0, .ref a0), (1, .int 1), (2, .int 40)] := hl
  generalize hQm : MQ below _ _ s _ _ A = Qm
  generalize (List.toArray _ : Array Value) = args at hC hQm ⊢
  obtain ⟨hx, hb, hml, hown, hts⟩ := id hC
  obtain ⟨H, hH⟩ : ∃ q, q = s.heap := ⟨_, rfl⟩
  obtain ⟨locs, hlo⟩ : ∃ q : List Loc, q = [] := ⟨_, rfl⟩
  have hP : va_P G cl [(a0, .inr (2, [.ref a1, .ref a2, .int v_rd_2, .int v_rd_3, .int v_rd_4, .int v_rd_5, .int v_rd_6, .int v_rd_7])), (a1, .inr (5, [.ref a3, .int v_tp_1, .int v_tp_2, .int v_tp_3, .int v_tp_4, .long w_tp_5, .int v_tp_6])), (a3, .inl (cB, 1300, .inl g_tp_bytes))] H := by rw [hH]; exact hP
  have hS : va_S A s.heap H locs := by rw [hH, hlo]; exact hS
  rw [← hlo]
  rw [← hH]
  refine lv_aload_n hx hb dX2_takeNumber_0 rfl (lv_at hl 0 rfl) ?_
  refine k_get hC hK hP iX2 0 0 wf_X2_12 rfl (by decide) rfl rfl dX2_takeNumber_1 ?_
  refine k_getN hC hN hK hP iX5 1 4 wf_X2_51 rfl (by decide) rfl rfl dX2_takeNumber_4 ?_
  refine lv_iconst (v := 2) hx hb dX2_takeNumber_7 (by decide) ?_
  refine lv_icmp_eq (tgt := 17) hx hb dX2_takeNumber_8 (by decide) (fun c1 => ?_) (fun c1 => ?_)
  · have dc1 : v_tp_4.toInt = 2 := (fa_eq _ _).mp c1; have lbc1_0 := i_lo v_tp_4; have ubc1_0 := i_hi v_tp_4
    refine lv_aload_n hx hb dX2_takeNumber_17 rfl (lv_at hl 0 rfl) ?_
    refine k_get hC hK hP iX2 0 0 wf_X2_12 rfl (by decide) rfl rfl dX2_takeNumber_18 ?_
    refine k_getN hC hN hK hP iX5 1 6 wf_X2_146 rfl (by decide) rfl rfl dX2_takeNumber_21 ?_
    refine lv_iload_n hx hb dX2_takeNumber_24 rfl (lv_at hl 1 rfl) ?_
    refine lv_icmp_lt (tgt := 39) hx hb dX2_takeNumber_25 (by decide) (fun c2 => ?_) (fun c2 => ?_)
    · have dc2 : v_tp_6.toInt < 1 := (fa_lt _ _).mp c2; have lbc2_0 := i_lo v_tp_6; have ubc2_0 := i_hi v_tp_6
      refine lv_aload_n hx hb dX2_takeNumber_39 rfl (lv_at hl 0 rfl) ?_
      refine lv_iconst (v := 4) hx hb dX2_takeNumber_40 (by decide) ?_
      have l_l4 : (4 : Int32).toInt = 4 := rfl
      refine k_ci (wr := [(a3, .inl (cB, 1300, .inl g_tp_bytes))]) (k_rV hC hN hZ hS hA hK hP hD (c47_X2_refuse l G cI cJ cB cZ a0 a1 a2 a3 4 v_rd_2 v_rd_3 v_rd_4 v_rd_5 v_rd_6 v_rd_7 v_tp_1 v_tp_2 v_tp_3 v_tp_4 w_tp_5 v_tp_6 hv_0 hv_1 hv_2 hv_3 hv_4 hv_5 hv_6 hv_7) [0, 1] rfl (by decide +kernel) mi_X2_refuse in_X2_refuse se_X2_refuse wm_X2_100 2 0 rfl rfl rfl hl.1 rfl rfl (Nat.le_of_ble_eq_true rfl) ⟨(Nat.le_of_ble_eq_true rfl), (Nat.le_of_ble_eq_true rfl)⟩ dX2_takeNumber_41 ⟨(Nat.le_of_ble_eq_true rfl), (Nat.le_of_ble_eq_true rfl)⟩) hP hD hS hA [0, 1] [2] rfl rfl (by decide +kernel) (by decide +kernel) (fun r3 u3 H locs hp hP hD hS => ?_)
      obtain ⟨h5, h6⟩ := u3
      have hp : (r3 = 0 ∧ True) := hp
      obtain rfl : r3 = 0 := hp.1
      have hP : va_P G cl [(a3, .inl (cB, 1300, .inl g_tp_bytes)), (a0, .inr (2, [.ref a1, .ref a2, .int v_rd_2, .int v_rd_3, .int v_rd_4, .int v_rd_5, .int h5, .int h6])), (a1, .inr (5, [.ref a3, .int v_tp_1, .int v_tp_2, .int v_tp_3, .int v_tp_4, .long w_tp_5, .int v_tp_6]))] H := hP
      have hD : va_D A [(a3, .inl (cB, 1300, .inl g_tp_bytes)), (a0, .inr (2, [.ref a1, .ref a2, .int v_rd_2, .int v_rd_3, .int v_rd_4, .int v_rd_5, .int h5, .int h6])), (a1, .inr (5, [.ref a3, .int v_tp_1, .int v_tp_2, .int v_tp_3, .int v_tp_4, .long w_tp_5, .int v_tp_6]))] := hD
      have hq3 := hp
      have l_l7 : (0 : Int32).toInt = 0 := rfl
      rw [← hQm]
      exact k_zret hC hr hlk hK hP hD hS (v_rd_2, h5, h6, v_tp_2, v_tp_3, v_tp_4, w_tp_5, v_tp_6) [1, 2, 0] rfl (by decide +kernel) rfl (Or.inl ⟨rfl, (show 0 ≤ v_tp_2.toInt ∧ v_tp_2.toInt ≤ 1300 from by omega)⟩) (Nat.le_of_ble_eq_true rfl) (Nat.le_of_ble_eq_true rfl) dX2_takeNumber_44
    · have dc2 : 1 ≤ v_tp_6.toInt := fa_nlt c2; have lbc2_0 := i_lo v_tp_6; have ubc2_0 := i_hi v_tp_6
      refine lv_aload_n hx hb dX2_takeNumber_28 rfl (lv_at hl 0 rfl) ?_
      refine k_get hC hK hP iX2 0 0 wf_X2_12 rfl (by decide) rfl rfl dX2_takeNumber_29 ?_
      refine k_getN hC hN hK hP iX5 1 6 wf_X2_146 rfl (by decide) rfl rfl dX2_takeNumber_32 ?_
      refine lv_iload_n hx hb dX2_takeNumber_35 rfl (lv_at hl 2 rfl) ?_
      refine lv_icmp_le (tgt := 45) hx hb dX2_takeNumber_36 (by decide) (fun c8 => ?_) (fun c8 => ?_)
      · have dc8 : v_tp_6.toInt ≤ 40 := (fa_le _ _).mp c8; have ubc8_0 := i_hi v_tp_6
        refine lv_aload_n hx hb dX2_takeNumber_45 rfl (lv_at hl 0 rfl) ?_
        refine lv_aload_n hx hb dX2_takeNumber_46 rfl (lv_at hl 0 rfl) ?_
        refine k_get hC hK hP iX2 0 0 wf_X2_12 rfl (by decide) rfl rfl dX2_takeNumber_47 ?_
        refine k_getN hC hN hK hP iX5 1 6 wf_X2_146 rfl (by decide) rfl rfl dX2_takeNumber_50 ?_
        refine k_put hC hK hP hD hS iX2 tyX2_ok nmX2 0 2 wf_X2_25 rfl (by decide) rfl rfl rfl rfl (Nat.le_of_ble_eq_true rfl) dX2_takeNumber_53 (fun H locs hP hD hS => ?_)
        have hP : va_P G cl [(a0, .inr (2, [.ref a1, .ref a2, .int v_tp_6, .int v_rd_3, .int v_rd_4, .int v_rd_5, .int v_rd_6, .int v_rd_7])), (a1, .inr (5, [.ref a3, .int v_tp_1, .int v_tp_2, .int v_tp_3, .int v_tp_4, .long w_tp_5, .int v_tp_6])), (a3, .inl (cB, 1300, .inl g_tp_bytes))] H := hP
        have hD : va_D A [(a0, .inr (2, [.ref a1, .ref a2, .int v_tp_6, .int v_rd_3, .int v_rd_4, .int v_rd_5, .int v_rd_6, .int v_rd_7])), (a1, .inr (5, [.ref a3, .int v_tp_1, .int v_tp_2, .int v_tp_3, .int v_tp_4, .long w_tp_5, .int v_tp_6])), (a3, .inl (cB, 1300, .inl g_tp_bytes))] := hD
        refine lv_aload_n hx hb dX2_takeNumber_56 rfl (lv_at hl 0 rfl) ?_
        refine k_get hC hK hP iX2 0 0 wf_X2_12 rfl (by decide) rfl rfl dX2_takeNumber_57 ?_
        refine k_cv (wr := [(a0, .inr (2, [.ref a1, .ref a2, .int v_tp_6, .int v_rd_3, .int v_rd_4, .int v_rd_5, .int v_rd_6, .int v_rd_7]))]) (k_rV hC hN hZ hS hA hK hP hD (c20_X5_advance l G cI cJ cB cZ a1 a3 v_tp_1 v_tp_2 v_tp_3 v_tp_4 w_tp_5 v_tp_6 g_tp_bytes hv_4 hv_5 hv_6 hv_7 hT_g_tp_bytes) [1, 2] rfl (by decide +kernel) mi_X5_advance in_X5_advance se_X5_advance wm_X2_104 5 1 rfl rfl rfl hl.1 rfl rfl (Nat.le_of_ble_eq_true rfl) ⟨(Nat.le_of_ble_eq_true rfl), (Nat.le_of_ble_eq_true rfl)⟩ dX2_takeNumber_60 ⟨(Nat.le_of_ble_eq_true rfl), (Nat.le_of_ble_eq_true rfl)⟩) hP hD hS hA [1, 2] [0] rfl rfl (by decide +kernel) (by decide +kernel) (fun u9 H locs hp hP hD hS => ?_)
        obtain ⟨h10, h11, h12, y13, h14⟩ := u9
        have hp : (0 ≤ h10.toInt ∧ h10.toInt ≤ 1300 ∧ 0 ≤ h11.toInt ∧ h11.toInt ≤ 1300 ∧ 0 ≤ h12.toInt ∧ h12.toInt ≤ 4) := hp
        have hP : va_P G cl [(a0, .inr (2, [.ref a1, .ref a2, .int v_tp_6, .int v_rd_3, .int v_rd_4, .int v_rd_5, .int v_rd_6, .int v_rd_7])), (a1, .inr (5, [.ref a3, .int v_tp_1, .int h10, .int h11, .int h12, .long y13, .int h14])), (a3, .inl (cB, 1300, .inl g_tp_bytes))] H := hP
        have hD : va_D A [(a0, .inr (2, [.ref a1, .ref a2, .int v_tp_6, .int v_rd_3, .int v_rd_4, .int v_rd_5, .int v_rd_6, .int v_rd_7])), (a1, .inr (5, [.ref a3, .int v_tp_1, .int h10, .int h11, .int h12, .long y13, .int h14])), (a3, .inl (cB, 1300, .inl g_tp_bytes))] := hD
        have hq9 := hp
        refine lv_iconst (v := 1) hx hb dX2_takeNumber_63 (by decide) ?_
        have l_l15 : (1 : Int32).toInt = 1 := rfl
        rw [← hQm]
        exact k_zret hC hr hlk hK hP hD hS (v_tp_6, v_rd_6, v_rd_7, h10, h11, h12, y13, h14) [0, 1, 2] rfl (by decide +kernel) rfl (Or.inr ⟨rfl, (show 1 ≤ v_tp_6.toInt ∧ v_tp_6.toInt ≤ 40 ∧ 0 ≤ h10.toInt ∧ h10.toInt ≤ 1300 ∧ 0 ≤ h11.toInt ∧ h11.toInt ≤ 1300 ∧ 0 ≤ h12.toInt ∧ h12.toInt ≤ 4 from by omega)⟩) (Nat.le_of_ble_eq_true rfl) (Nat.le_of_ble_eq_true rfl) dX2_takeNumber_64
      · have dc8 : 40 < v_tp_6.toInt := fa_nle c8; have ubc8_0 := i_hi v_tp_6
        refine lv_aload_n hx hb dX2_takeNumber_39 rfl (lv_at hl 0 rfl) ?_
        refine lv_iconst (v := 4) hx hb dX2_takeNumber_40 (by decide) ?_
        have l_l17 : (4 : Int32).toInt = 4 := rfl
        refine k_ci (wr := [(a3, .inl (cB, 1300, .inl g_tp_bytes))]) (k_rV hC hN hZ hS hA hK hP hD (c47_X2_refuse l G cI cJ cB cZ a0 a1 a2 a3 4 v_rd_2 v_rd_3 v_rd_4 v_rd_5 v_rd_6 v_rd_7 v_tp_1 v_tp_2 v_tp_3 v_tp_4 w_tp_5 v_tp_6 hv_0 hv_1 hv_2 hv_3 hv_4 hv_5 hv_6 hv_7) [0, 1] rfl (by decide +kernel) mi_X2_refuse in_X2_refuse se_X2_refuse wm_X2_100 2 0 rfl rfl rfl hl.1 rfl rfl (Nat.le_of_ble_eq_true rfl) ⟨(Nat.le_of_ble_eq_true rfl), (Nat.le_of_ble_eq_true rfl)⟩ dX2_takeNumber_41 ⟨(Nat.le_of_ble_eq_true rfl), (Nat.le_of_ble_eq_true rfl)⟩) hP hD hS hA [0, 1] [2] rfl rfl (by decide +kernel) (by decide +kernel) (fun r16 u16 H locs hp hP hD hS => ?_)
        obtain ⟨h18, h19⟩ := u16
        have hp : (r16 = 0 ∧ True) := hp
        obtain rfl : r16 = 0 := hp.1
        have hP : va_P G cl [(a3, .inl (cB, 1300, .inl g_tp_bytes)), (a0, .inr (2, [.ref a1, .ref a2, .int v_rd_2, .int v_rd_3, .int v_rd_4, .int v_rd_5, .int h18, .int h19])), (a1, .inr (5, [.ref a3, .int v_tp_1, .int v_tp_2, .int v_tp_3, .int v_tp_4, .long w_tp_5, .int v_tp_6]))] H := hP
        have hD : va_D A [(a3, .inl (cB, 1300, .inl g_tp_bytes)), (a0, .inr (2, [.ref a1, .ref a2, .int v_rd_2, .int v_rd_3, .int v_rd_4, .int v_rd_5, .int h18, .int h19])), (a1, .inr (5, [.ref a3, .int v_tp_1, .int v_tp_2, .int v_tp_3, .int v_tp_4, .long w_tp_5, .int v_tp_6]))] := hD
        have hq16 := hp
        have l_l20 : (0 : Int32).toInt = 0 := rfl
        rw [← hQm]
        exact k_zret hC hr hlk hK hP hD hS (v_rd_2, h18, h19, v_tp_2, v_tp_3, v_tp_4, w_tp_5, v_tp_6) [1, 2, 0] rfl (by decide +kernel) rfl (Or.inl ⟨rfl, (show 0 ≤ v_tp_2.toInt ∧ v_tp_2.toInt ≤ 1300 from by omega)⟩) (Nat.le_of_ble_eq_true rfl) (Nat.le_of_ble_eq_true rfl) dX2_takeNumber_44
  · have dc1 : v_tp_4.toInt ≠ 2 := fa_ne c1; have lbc1_0 := i_lo v_tp_4; have ubc1_0 := i_hi v_tp_4
    refine lv_aload_n hx hb dX2_takeNumber_11 rfl (lv_at hl 0 rfl) ?_
    refine lv_iconst (v := 2) hx hb dX2_takeNumber_12 (by decide) ?_
    have l_l22 : (2 : Int32).toInt = 2 := rfl
    refine k_ci (wr := [(a3, .inl (cB, 1300, .inl g_tp_bytes))]) (k_rV hC hN hZ hS hA hK hP hD (c47_X2_refuse l G cI cJ cB cZ a0 a1 a2 a3 2 v_rd_2 v_rd_3 v_rd_4 v_rd_5 v_rd_6 v_rd_7 v_tp_1 v_tp_2 v_tp_3 v_tp_4 w_tp_5 v_tp_6 hv_0 hv_1 hv_2 hv_3 hv_4 hv_5 hv_6 hv_7) [0, 1] rfl (by decide +kernel) mi_X2_refuse in_X2_refuse se_X2_refuse wm_X2_100 2 0 rfl rfl rfl hl.1 rfl rfl (Nat.le_of_ble_eq_true rfl) ⟨(Nat.le_of_ble_eq_true rfl), (Nat.le_of_ble_eq_true rfl)⟩ dX2_takeNumber_13 ⟨(Nat.le_of_ble_eq_true rfl), (Nat.le_of_ble_eq_true rfl)⟩) hP hD hS hA [0, 1] [2] rfl rfl (by decide +kernel) (by decide +kernel) (fun r21 u21 H locs hp hP hD hS => ?_)
    obtain ⟨h23, h24⟩ := u21
    have hp : (r21 = 0 ∧ True) := hp
    obtain rfl : r21 = 0 := hp.1
    have hP : va_P G cl [(a3, .inl (cB, 1300, .inl g_tp_bytes)), (a0, .inr (2, [.ref a1, .ref a2, .int v_rd_2, .int v_rd_3, .int v_rd_4, .int v_rd_5, .int h23, .int h24])), (a1, .inr (5, [.ref a3, .int v_tp_1, .int v_tp_2, .int v_tp_3, .int v_tp_4, .long w_tp_5, .int v_tp_6]))] H := hP
    have hD : va_D A [(a3, .inl (cB, 1300, .inl g_tp_bytes)), (a0, .inr (2, [.ref a1, .ref a2, .int v_rd_2, .int v_rd_3, .int v_rd_4, .int v_rd_5, .int h23, .int h24])), (a1, .inr (5, [.ref a3, .int v_tp_1, .int v_tp_2, .int v_tp_3, .int v_tp_4, .long w_tp_5, .int v_tp_6]))] := hD
    have hq21 := hp
    have l_l25 : (0 : Int32).toInt = 0 := rfl
    rw [← hQm]
    exact k_zret hC hr hlk hK hP hD hS (v_rd_2, h23, h24, v_tp_2, v_tp_3, v_tp_4, w_tp_5, v_tp_6) [1, 2, 0] rfl (by decide +kernel) rfl (Or.inl ⟨rfl, (show 0 ≤ v_tp_2.toInt ∧ v_tp_2.toInt ≤ 1300 from by omega)⟩) (Nat.le_of_ble_eq_true rfl) (Nat.le_of_ble_eq_true rfl) dX2_takeNumber_16
set_option maxHeartbeats 4000000 in
set_option maxRecDepth 100000 in
theorem c58_X2_takeNumber (l : Launch) (G : va_G) (cI cJ cB cZ : ClassId) (a0 a1 a2 a3 : Nat) (b1 : Int32) (b2 : Int32) (v_rd_2 : Int32) (v_rd_3 : Int32) (v_rd_4 : Int32) (v_rd_5 : Int32) (v_rd_6 : Int32) (v_rd_7 : Int32) (v_tp_1 : Int32) (v_tp_2 : Int32) (v_tp_3 : Int32) (v_tp_4 : Int32) (w_tp_5 : Int64) (v_tp_6 : Int32) (g_tp_bytes : Nat → Int32) (hv_0 : 1 ≤ b1.toInt) (hv_1 : b1.toInt ≤ 40) (hv_2 : 5 ≤ b2.toInt) (hv_3 : b2.toInt ≤ 40) (hv_4 : 0 ≤ v_rd_3.toInt) (hv_5 : v_rd_3.toInt ≤ 1) (hv_6 : 0 ≤ v_rd_4.toInt) (hv_7 : v_rd_4.toInt ≤ 1) (hv_8 : 0 ≤ v_tp_1.toInt) (hv_9 : v_tp_1.toInt ≤ 1300) (hv_10 : 0 ≤ v_tp_2.toInt) (hv_11 : v_tp_2.toInt ≤ 1300) (hT_g_tp_bytes : TA (-128) 127 g_tp_bytes) : Con l G (TY cI cJ cB cZ) yX2_takeNumber cX2_takeNumber 3 (some .boolean) ({ frames := 3, cells := 0, slots := 0, locals := 61 } : Room) [.ref a0, .int b1, .int b2] [(a0, .inr (2, [.ref a1, .ref a2, .int v_rd_2, .int v_rd_3, .int v_rd_4, .int v_rd_5, .int v_rd_6, .int v_rd_7])), (a1, .inr (5, [.ref a3, .int v_tp_1, .int v_tp_2, .int v_tp_3, .int v_tp_4, .long w_tp_5, .int v_tp_6])), (a3, .inl (cB, 1300, .inl g_tp_bytes))] (QI G (TY cI cJ cB cZ) (fun (r : Int32) (u : Int32 × Int32 × Int32 × Int32 × Int32 × Int32 × Int64 × Int32) => (r = 0 ∧ (0 ≤ u.2.2.2.1.toInt ∧ u.2.2.2.1.toInt ≤ 1300)) ∨ (r = 1 ∧ (1 ≤ u.1.toInt ∧ u.1.toInt ≤ 40 ∧ 0 ≤ u.2.2.2.1.toInt ∧ u.2.2.2.1.toInt ≤ 1300 ∧ 0 ≤ u.2.2.2.2.1.toInt ∧ u.2.2.2.2.1.toInt ≤ 1300 ∧ 0 ≤ u.2.2.2.2.2.1.toInt ∧ u.2.2.2.2.2.1.toInt ≤ 4))) (fun u : Int32 × Int32 × Int32 × Int32 × Int32 × Int32 × Int64 × Int32 => [(a0, .inr (2, [.ref a1, .ref a2, .int u.1, .int v_rd_3, .int v_rd_4, .int v_rd_5, .int u.2.1, .int u.2.2.1])), (a1, .inr (5, [.ref a3, .int v_tp_1, .int u.2.2.2.1, .int u.2.2.2.2.1, .int u.2.2.2.2.2.1, .long u.2.2.2.2.2.2.1, .int u.2.2.2.2.2.2.2])), (a3, .inl (cB, 1300, .inl g_tp_bytes))])) := by
  refine k_met (by decide) (Nat.le_of_ble_eq_true rfl) ?_
  intro p e s m below meth c A ls hC hr hlk hnm hN hZ hK hA hP hD hS hl
  have hl : lv_has ls 3 [(0, .ref a0), (1, .int b1), (2, .int b2)] := hl
  generalize hQm : MQ below _ _ s _ _ A = Qm
  generalize (List.toArray _ : Array Value) = args at hC hQm ⊢
  obtain ⟨hx, hb, hml, hown, hts⟩ := id hC
  obtain ⟨H, hH⟩ : ∃ q, q = s.heap := ⟨_, rfl⟩
  obtain ⟨locs, hlo⟩ : ∃ q : List Loc, q = [] := ⟨_, rfl⟩
  have hP : va_P G cl [(a0, .inr (2, [.ref a1, .ref a2, .int v_rd_2, .int v_rd_3, .int v_rd_4, .int v_rd_5, .int v_rd_6, .int v_rd_7])), (a1, .inr (5, [.ref a3, .int v_tp_1, .int v_tp_2, .int v_tp_3, .int v_tp_4, .long w_tp_5, .int v_tp_6])), (a3, .inl (cB, 1300, .inl g_tp_bytes))] H := by rw [hH]; exact hP
  have hS : va_S A s.heap H locs := by rw [hH, hlo]; exact hS
  rw [← hlo]
  rw [← hH]
  refine lv_aload_n hx hb dX2_takeNumber_0 rfl (lv_at hl 0 rfl) ?_
  refine k_get hC hK hP iX2 0 0 wf_X2_12 rfl (by decide) rfl rfl dX2_takeNumber_1 ?_
  refine k_getN hC hN hK hP iX5 1 4 wf_X2_51 rfl (by decide) rfl rfl dX2_takeNumber_4 ?_
  refine lv_iconst (v := 2) hx hb dX2_takeNumber_7 (by decide) ?_
  refine lv_icmp_eq (tgt := 17) hx hb dX2_takeNumber_8 (by decide) (fun c1 => ?_) (fun c1 => ?_)
  · have dc1 : v_tp_4.toInt = 2 := (fa_eq _ _).mp c1; have lbc1_0 := i_lo v_tp_4; have ubc1_0 := i_hi v_tp_4
    refine lv_aload_n hx hb dX2_takeNumber_17 rfl (lv_at hl 0 rfl) ?_
    refine k_get hC hK hP iX2 0 0 wf_X2_12 rfl (by decide) rfl rfl dX2_takeNumber_18 ?_
    refine k_getN hC hN hK hP iX5 1 6 wf_X2_146 rfl (by decide) rfl rfl dX2_takeNumber_21 ?_
    refine lv_iload_n hx hb dX2_takeNumber_24 rfl (lv_at hl 1 rfl) ?_
    refine lv_icmp_lt (tgt := 39) hx hb dX2_takeNumber_25 (by decide) (fun c2 => ?_) (fun c2 => ?_)
    · have dc2 : v_tp_6.toInt < b1.toInt := (fa_lt _ _).mp c2; have lbc2_0 := i_lo v_tp_6; have ubc2_0 := i_hi v_tp_6
      refine lv_aload_n hx hb dX2_takeNumber_39 rfl (lv_at hl 0 rfl) ?_
      refine lv_iconst (v := 4) hx hb dX2_takeNumber_40 (by decide) ?_
      have l_l4 : (4 : Int32).toInt = 4 := rfl
      refine k_ci (wr := [(a3, .inl (cB, 1300, .inl g_tp_bytes))]) (k_rV hC hN hZ hS hA hK hP hD (c47_X2_refuse l G cI cJ cB cZ a0 a1 a2 a3 4 v_rd_2 v_rd_3 v_rd_4 v_rd_5 v_rd_6 v_rd_7 v_tp_1 v_tp_2 v_tp_3 v_tp_4 w_tp_5 v_tp_6 hv_4 hv_5 hv_6 hv_7 hv_8 hv_9 hv_10 hv_11) [0, 1] rfl (by decide +kernel) mi_X2_refuse in_X2_refuse se_X2_refuse wm_X2_100 2 0 rfl rfl rfl hl.1 rfl rfl (Nat.le_of_ble_eq_true rfl) ⟨(Nat.le_of_ble_eq_true rfl), (Nat.le_of_ble_eq_true rfl)⟩ dX2_takeNumber_41 ⟨(Nat.le_of_ble_eq_true rfl), (Nat.le_of_ble_eq_true rfl)⟩) hP hD hS hA [0, 1] [2] rfl rfl (by decide +kernel) (by decide +kernel) (fun r3 u3 H locs hp hP hD hS => ?_)
      obtain ⟨h5, h6⟩ := u3
      have hp : (r3 = 0 ∧ True) := hp
      obtain rfl : r3 = 0 := hp.1
      have hP : va_P G cl [(a3, .inl (cB, 1300, .inl g_tp_bytes)), (a0, .inr (2, [.ref a1, .ref a2, .int v_rd_2, .int v_rd_3, .int v_rd_4, .int v_rd_5, .int h5, .int h6])), (a1, .inr (5, [.ref a3, .int v_tp_1, .int v_tp_2, .int v_tp_3, .int v_tp_4, .long w_tp_5, .int v_tp_6]))] H := hP
      have hD : va_D A [(a3, .inl (cB, 1300, .inl g_tp_bytes)), (a0, .inr (2, [.ref a1, .ref a2, .int v_rd_2, .int v_rd_3, .int v_rd_4, .int v_rd_5, .int h5, .int h6])), (a1, .inr (5, [.ref a3, .int v_tp_1, .int v_tp_2, .int v_tp_3, .int v_tp_4, .long w_tp_5, .int v_tp_6]))] := hD
      have hq3 := hp
      have l_l7 : (0 : Int32).toInt = 0 := rfl
      rw [← hQm]
      exact k_zret hC hr hlk hK hP hD hS (v_rd_2, h5, h6, v_tp_2, v_tp_3, v_tp_4, w_tp_5, v_tp_6) [1, 2, 0] rfl (by decide +kernel) rfl (Or.inl ⟨rfl, (show 0 ≤ v_tp_2.toInt ∧ v_tp_2.toInt ≤ 1300 from by omega)⟩) (Nat.le_of_ble_eq_true rfl) (Nat.le_of_ble_eq_true rfl) dX2_takeNumber_44
    · have dc2 : b1.toInt ≤ v_tp_6.toInt := fa_nlt c2; have lbc2_0 := i_lo v_tp_6; have ubc2_0 := i_hi v_tp_6
      refine lv_aload_n hx hb dX2_takeNumber_28 rfl (lv_at hl 0 rfl) ?_
      refine k_get hC hK hP iX2 0 0 wf_X2_12 rfl (by decide) rfl rfl dX2_takeNumber_29 ?_
      refine k_getN hC hN hK hP iX5 1 6 wf_X2_146 rfl (by decide) rfl rfl dX2_takeNumber_32 ?_
      refine lv_iload_n hx hb dX2_takeNumber_35 rfl (lv_at hl 2 rfl) ?_
      refine lv_icmp_le (tgt := 45) hx hb dX2_takeNumber_36 (by decide) (fun c8 => ?_) (fun c8 => ?_)
      · have dc8 : v_tp_6.toInt ≤ b2.toInt := (fa_le _ _).mp c8; have ubc8_0 := i_hi v_tp_6
        refine lv_aload_n hx hb dX2_takeNumber_45 rfl (lv_at hl 0 rfl) ?_
        refine lv_aload_n hx hb dX2_takeNumber_46 rfl (lv_at hl 0 rfl) ?_
        refine k_get hC hK hP iX2 0 0 wf_X2_12 rfl (by decide) rfl rfl dX2_takeNumber_47 ?_
        refine k_getN hC hN hK hP iX5 1 6 wf_X2_146 rfl (by decide) rfl rfl dX2_takeNumber_50 ?_
        refine k_put hC hK hP hD hS iX2 tyX2_ok nmX2 0 2 wf_X2_25 rfl (by decide) rfl rfl rfl rfl (Nat.le_of_ble_eq_true rfl) dX2_takeNumber_53 (fun H locs hP hD hS => ?_)
        have hP : va_P G cl [(a0, .inr (2, [.ref a1, .ref a2, .int v_tp_6, .int v_rd_3, .int v_rd_4, .int v_rd_5, .int v_rd_6, .int v_rd_7])), (a1, .inr (5, [.ref a3, .int v_tp_1, .int v_tp_2, .int v_tp_3, .int v_tp_4, .long w_tp_5, .int v_tp_6])), (a3, .inl (cB, 1300, .inl g_tp_bytes))] H := hP
        have hD : va_D A [(a0, .inr (2, [.ref a1, .ref a2, .int v_tp_6, .int v_rd_3, .int v_rd_4, .int v_rd_5, .int v_rd_6, .int v_rd_7])), (a1, .inr (5, [.ref a3, .int v_tp_1, .int v_tp_2, .int v_tp_3, .int v_tp_4, .long w_tp_5, .int v_tp_6])), (a3, .inl (cB, 1300, .inl g_tp_bytes))] := hD
        refine lv_aload_n hx hb dX2_takeNumber_56 rfl (lv_at hl 0 rfl) ?_
        refine k_get hC hK hP iX2 0 0 wf_X2_12 rfl (by decide) rfl rfl dX2_takeNumber_57 ?_
        refine k_cv (wr := [(a0, .inr (2, [.ref a1, .ref a2, .int v_tp_6, .int v_rd_3, .int v_rd_4, .int v_rd_5, .int v_rd_6, .int v_rd_7]))]) (k_rV hC hN hZ hS hA hK hP hD (c20_X5_advance l G cI cJ cB cZ a1 a3 v_tp_1 v_tp_2 v_tp_3 v_tp_4 w_tp_5 v_tp_6 g_tp_bytes hv_8 hv_9 hv_10 hv_11 hT_g_tp_bytes) [1, 2] rfl (by decide +kernel) mi_X5_advance in_X5_advance se_X5_advance wm_X2_104 5 1 rfl rfl rfl hl.1 rfl rfl (Nat.le_of_ble_eq_true rfl) ⟨(Nat.le_of_ble_eq_true rfl), (Nat.le_of_ble_eq_true rfl)⟩ dX2_takeNumber_60 ⟨(Nat.le_of_ble_eq_true rfl), (Nat.le_of_ble_eq_true rfl)⟩) hP hD hS hA [1, 2] [0] rfl rfl (by decide +kernel) (by decide +kernel) (fun u9 H locs hp hP hD hS => ?_)
        obtain ⟨h10, h11, h12, y13, h14⟩ := u9
        have hp : (0 ≤ h10.toInt ∧ h10.toInt ≤ 1300 ∧ 0 ≤ h11.toInt ∧ h11.toInt ≤ 1300 ∧ 0 ≤ h12.toInt ∧ h12.toInt ≤ 4) := hp
        have hP : va_P G cl [(a0, .inr (2, [.ref a1, .ref a2, .int v_tp_6, .int v_rd_3, .int v_rd_4, .int v_rd_5, .int v_rd_6, .int v_rd_7])), (a1, .inr (5, [.ref a3, .int v_tp_1, .int h10, .int h11, .int h12, .long y13, .int h14])), (a3, .inl (cB, 1300, .inl g_tp_bytes))] H := hP
        have hD : va_D A [(a0, .inr (2, [.ref a1, .ref a2, .int v_tp_6, .int v_rd_3, .int v_rd_4, .int v_rd_5, .int v_rd_6, .int v_rd_7])), (a1, .inr (5, [.ref a3, .int v_tp_1, .int h10, .int h11, .int h12, .long y13, .int h14])), (a3, .inl (cB, 1300, .inl g_tp_bytes))] := hD
        have hq9 := hp
        refine lv_iconst (v := 1) hx hb dX2_takeNumber_63 (by decide) ?_
        have l_l15 : (1 : Int32).toInt = 1 := rfl
        rw [← hQm]
        exact k_zret hC hr hlk hK hP hD hS (v_tp_6, v_rd_6, v_rd_7, h10, h11, h12, y13, h14) [0, 1, 2] rfl (by decide +kernel) rfl (Or.inr ⟨rfl, (show 1 ≤ v_tp_6.toInt ∧ v_tp_6.toInt ≤ 40 ∧ 0 ≤ h10.toInt ∧ h10.toInt ≤ 1300 ∧ 0 ≤ h11.toInt ∧ h11.toInt ≤ 1300 ∧ 0 ≤ h12.toInt ∧ h12.toInt ≤ 4 from by omega)⟩) (Nat.le_of_ble_eq_true rfl) (Nat.le_of_ble_eq_true rfl) dX2_takeNumber_64
      · have dc8 : b2.toInt < v_tp_6.toInt := fa_nle c8; have ubc8_0 := i_hi v_tp_6
        refine lv_aload_n hx hb dX2_takeNumber_39 rfl (lv_at hl 0 rfl) ?_
        refine lv_iconst (v := 4) hx hb dX2_takeNumber_40 (by decide) ?_
        have l_l17 : (4 : Int32).toInt = 4 := rfl
        refine k_ci (wr := [(a3, .inl (cB, 1300, .inl g_tp_bytes))]) (k_rV hC hN hZ hS hA hK hP hD (c47_X2_refuse l G cI cJ cB cZ a0 a1 a2 a3 4 v_rd_2 v_rd_3 v_rd_4 v_rd_5 v_rd_6 v_rd_7 v_tp_1 v_tp_2 v_tp_3 v_tp_4 w_tp_5 v_tp_6 hv_4 hv_5 hv_6 hv_7 hv_8 hv_9 hv_10 hv_11) [0, 1] rfl (by decide +kernel) mi_X2_refuse in_X2_refuse se_X2_refuse wm_X2_100 2 0 rfl rfl rfl hl.1 rfl rfl (Nat.le_of_ble_eq_true rfl) ⟨(Nat.le_of_ble_eq_true rfl), (Nat.le_of_ble_eq_true rfl)⟩ dX2_takeNumber_41 ⟨(Nat.le_of_ble_eq_true rfl), (Nat.le_of_ble_eq_true rfl)⟩) hP hD hS hA [0, 1] [2] rfl rfl (by decide +kernel) (by decide +kernel) (fun r16 u16 H locs hp hP hD hS => ?_)
        obtain ⟨h18, h19⟩ := u16
        have hp : (r16 = 0 ∧ True) := hp
        obtain rfl : r16 = 0 := hp.1
        have hP : va_P G cl [(a3, .inl (cB, 1300, .inl g_tp_bytes)), (a0, .inr (2, [.ref a1, .ref a2, .int v_rd_2, .int v_rd_3, .int v_rd_4, .int v_rd_5, .int h18, .int h19])), (a1, .inr (5, [.ref a3, .int v_tp_1, .int v_tp_2, .int v_tp_3, .int v_tp_4, .long w_tp_5, .int v_tp_6]))] H := hP
        have hD : va_D A [(a3, .inl (cB, 1300, .inl g_tp_bytes)), (a0, .inr (2, [.ref a1, .ref a2, .int v_rd_2, .int v_rd_3, .int v_rd_4, .int v_rd_5, .int h18, .int h19])), (a1, .inr (5, [.ref a3, .int v_tp_1, .int v_tp_2, .int v_tp_3, .int v_tp_4, .long w_tp_5, .int v_tp_6]))] := hD
        have hq16 := hp
        have l_l20 : (0 : Int32).toInt = 0 := rfl
        rw [← hQm]
        exact k_zret hC hr hlk hK hP hD hS (v_rd_2, h18, h19, v_tp_2, v_tp_3, v_tp_4, w_tp_5, v_tp_6) [1, 2, 0] rfl (by decide +kernel) rfl (Or.inl ⟨rfl, (show 0 ≤ v_tp_2.toInt ∧ v_tp_2.toInt ≤ 1300 from by omega)⟩) (Nat.le_of_ble_eq_true rfl) (Nat.le_of_ble_eq_true rfl) dX2_takeNumber_44
  · have dc1 : v_tp_4.toInt ≠ 2 := fa_ne c1; have lbc1_0 := i_lo v_tp_4; have ubc1_0 := i_hi v_tp_4
    refine lv_aload_n hx hb dX2_takeNumber_11 rfl (lv_at hl 0 rfl) ?_
    refine lv_iconst (v := 2) hx hb dX2_takeNumber_12 (by decide) ?_
    have l_l22 : (2 : Int32).toInt = 2 := rfl
    refine k_ci (wr := [(a3, .inl (cB, 1300, .inl g_tp_bytes))]) (k_rV hC hN hZ hS hA hK hP hD (c47_X2_refuse l G cI cJ cB cZ a0 a1 a2 a3 2 v_rd_2 v_rd_3 v_rd_4 v_rd_5 v_rd_6 v_rd_7 v_tp_1 v_tp_2 v_tp_3 v_tp_4 w_tp_5 v_tp_6 hv_4 hv_5 hv_6 hv_7 hv_8 hv_9 hv_10 hv_11) [0, 1] rfl (by decide +kernel) mi_X2_refuse in_X2_refuse se_X2_refuse wm_X2_100 2 0 rfl rfl rfl hl.1 rfl rfl (Nat.le_of_ble_eq_true rfl) ⟨(Nat.le_of_ble_eq_true rfl), (Nat.le_of_ble_eq_true rfl)⟩ dX2_takeNumber_13 ⟨(Nat.le_of_ble_eq_true rfl), (Nat.le_of_ble_eq_true rfl)⟩) hP hD hS hA [0, 1] [2] rfl rfl (by decide +kernel) (by decide +kernel) (fun r21 u21 H locs hp hP hD hS => ?_)
    obtain ⟨h23, h24⟩ := u21
    have hp : (r21 = 0 ∧ True) := hp
    obtain rfl : r21 = 0 := hp.1
    have hP : va_P G cl [(a3, .inl (cB, 1300, .inl g_tp_bytes)), (a0, .inr (2, [.ref a1, .ref a2, .int v_rd_2, .int v_rd_3, .int v_rd_4, .int v_rd_5, .int h23, .int h24])), (a1, .inr (5, [.ref a3, .int v_tp_1, .int v_tp_2, .int v_tp_3, .int v_tp_4, .long w_tp_5, .int v_tp_6]))] H := hP
    have hD : va_D A [(a3, .inl (cB, 1300, .inl g_tp_bytes)), (a0, .inr (2, [.ref a1, .ref a2, .int v_rd_2, .int v_rd_3, .int v_rd_4, .int v_rd_5, .int h23, .int h24])), (a1, .inr (5, [.ref a3, .int v_tp_1, .int v_tp_2, .int v_tp_3, .int v_tp_4, .long w_tp_5, .int v_tp_6]))] := hD
    have hq21 := hp
    have l_l25 : (0 : Int32).toInt = 0 := rfl
    rw [← hQm]
    exact k_zret hC hr hlk hK hP hD hS (v_rd_2, h23, h24, v_tp_2, v_tp_3, v_tp_4, w_tp_5, v_tp_6) [1, 2, 0] rfl (by decide +kernel) rfl (Or.inl ⟨rfl, (show 0 ≤ v_tp_2.toInt ∧ v_tp_2.toInt ≤ 1300 from by omega)⟩) (Nat.le_of_ble_eq_true rfl) (Nat.le_of_ble_eq_true rfl) dX2_takeNumber_16
theorem dX2_readPound_0 : decode cX2_readPound 0 = .ok (.aload_n 0, 1) := by decide +kernel
theorem dX2_readPound_1 : decode cX2_readPound 1 = .ok (.getfield 12, 3) := by decide +kernel
theorem dX2_readPound_4 : decode cX2_readPound 4 = .ok (.invokevirtual 104, 3) := by decide +kernel
theorem dX2_readPound_7 : decode cX2_readPound 7 = .ok (.aload_n 0, 1) := by decide +kernel
theorem dX2_readPound_8 : decode cX2_readPound 8 = .ok (.invokevirtual 134, 3) := by decide +kernel
set_option maxRecDepth 100000 in
theorem wm_X2_134 : Cond.methodLink RX2 134 yX2_isPoundTold ∈ gw := gm (List.mem_of_getElem? (i := 657) (by decide +kernel)) rfl
set_option maxRecDepth 100000 in
theorem mi_X2_isPoundTold : MI yX2_isPoundTold cX2_isPoundTold 1 (some .boolean) 0 := ⟨gm (List.mem_of_getElem? (i := 660) rfl) rfl, gm (List.mem_of_getElem? (i := 118) (by decide +kernel)) rfl, by decide, by decide, by decide +kernel⟩
set_option maxRecDepth 100000 in
theorem in_X2_isPoundTold : Cond.instanceMethod yX2_isPoundTold ∈ gw := gm (List.mem_of_getElem? (i := 659) (by decide +kernel)) rfl
set_option maxRecDepth 100000 in
theorem se_X2_isPoundTold : Cond.selects yX2_isPoundTold.cls yX2_isPoundTold yX2_isPoundTold ∈ gw := gm (List.mem_of_getElem? (i := 11) (by decide +kernel)) rfl
theorem dX2_readPound_11 : decode cX2_readPound 11 = .ok (.ifCond .eq 9, 3) := by decide +kernel
theorem dX2_readPound_20 : decode cX2_readPound 20 = .ok (.aload_n 0, 1) := by decide +kernel
theorem dX2_readPound_21 : decode cX2_readPound 21 = .ok (.iconst 0, 1) := by decide +kernel
theorem dX2_readPound_22 : decode cX2_readPound 22 = .ok (.iconst 1, 1) := by decide +kernel
theorem dX2_readPound_23 : decode cX2_readPound 23 = .ok (.invokevirtual 107, 3) := by decide +kernel
theorem dX2_readPound_26 : decode cX2_readPound 26 = .ok (.ifCond .ne 5, 3) := by decide +kernel
theorem dX2_readPound_29 : decode cX2_readPound 29 = .ok (.iconst 0, 1) := by decide +kernel
theorem dX2_readPound_30 : decode cX2_readPound 30 = .ok (.ireturn, 1) := by decide +kernel
theorem dX2_readPound_31 : decode cX2_readPound 31 = .ok (.aload_n 0, 1) := by decide +kernel
theorem dX2_readPound_32 : decode cX2_readPound 32 = .ok (.getfield 25, 3) := by decide +kernel
theorem dX2_readPound_35 : decode cX2_readPound 35 = .ok (.istore_n 1, 1) := by decide +kernel
theorem dX2_readPound_36 : decode cX2_readPound 36 = .ok (.aload_n 0, 1) := by decide +kernel
theorem dX2_readPound_37 : decode cX2_readPound 37 = .ok (.ldc2_w 137, 3) := by decide +kernel
set_option maxRecDepth 100000 in
theorem kl_X2_137 : Cond.constantLong RX2 137 1718775661 ∈ gw := gm (List.mem_of_getElem? (i := 661) (by decide +kernel)) rfl
theorem dX2_readPound_40 : decode cX2_readPound 40 = .ok (.invokevirtual 113, 3) := by decide +kernel
theorem dX2_readPound_43 : decode cX2_readPound 43 = .ok (.ifCond .eq 13, 3) := by decide +kernel
theorem dX2_readPound_56 : decode cX2_readPound 56 = .ok (.iconst 0, 1) := by decide +kernel
theorem dX2_readPound_57 : decode cX2_readPound 57 = .ok (.ireturn, 1) := by decide +kernel
theorem dX2_readPound_46 : decode cX2_readPound 46 = .ok (.aload_n 0, 1) := by decide +kernel
theorem dX2_readPound_47 : decode cX2_readPound 47 = .ok (.iconst 1, 1) := by decide +kernel
theorem dX2_readPound_48 : decode cX2_readPound 48 = .ok (.bipush 40, 2) := by decide +kernel
theorem dX2_readPound_50 : decode cX2_readPound 50 = .ok (.invokevirtual 107, 3) := by decide +kernel
theorem dX2_readPound_53 : decode cX2_readPound 53 = .ok (.ifCond .ne 5, 3) := by decide +kernel
theorem dX2_readPound_58 : decode cX2_readPound 58 = .ok (.aload_n 0, 1) := by decide +kernel
theorem dX2_readPound_59 : decode cX2_readPound 59 = .ok (.getfield 25, 3) := by decide +kernel
theorem dX2_readPound_62 : decode cX2_readPound 62 = .ok (.istore_n 2, 1) := by decide +kernel
theorem dX2_readPound_63 : decode cX2_readPound 63 = .ok (.aload_n 0, 1) := by decide +kernel
theorem dX2_readPound_64 : decode cX2_readPound 64 = .ok (.ldc2_w 111, 3) := by decide +kernel
theorem dX2_readPound_67 : decode cX2_readPound 67 = .ok (.invokevirtual 113, 3) := by decide +kernel
theorem dX2_readPound_70 : decode cX2_readPound 70 = .ok (.ifCond .eq 19, 3) := by decide +kernel
theorem dX2_readPound_89 : decode cX2_readPound 89 = .ok (.iconst 0, 1) := by decide +kernel
theorem dX2_readPound_90 : decode cX2_readPound 90 = .ok (.ireturn, 1) := by decide +kernel
theorem dX2_readPound_73 : decode cX2_readPound 73 = .ok (.aload_n 0, 1) := by decide +kernel
theorem dX2_readPound_74 : decode cX2_readPound 74 = .ok (.iload_n 2, 1) := by decide +kernel
theorem dX2_readPound_75 : decode cX2_readPound 75 = .ok (.bipush 40, 2) := by decide +kernel
theorem dX2_readPound_77 : decode cX2_readPound 77 = .ok (.iload_n 2, 1) := by decide +kernel
theorem dX2_readPound_78 : decode cX2_readPound 78 = .ok (.iconst 4, 1) := by decide +kernel
theorem dX2_readPound_79 : decode cX2_readPound 79 = .ok (.iadd, 1) := by decide +kernel
theorem dX2_readPound_80 : decode cX2_readPound 80 = .ok (.invokestatic 116, 3) := by decide +kernel
theorem dX2_readPound_83 : decode cX2_readPound 83 = .ok (.invokevirtual 107, 3) := by decide +kernel
theorem dX2_readPound_86 : decode cX2_readPound 86 = .ok (.ifCond .ne 5, 3) := by decide +kernel
theorem dX2_readPound_91 : decode cX2_readPound 91 = .ok (.aload_n 0, 1) := by decide +kernel
theorem dX2_readPound_92 : decode cX2_readPound 92 = .ok (.getfield 21, 3) := by decide +kernel
theorem dX2_readPound_95 : decode cX2_readPound 95 = .ok (.getfield 139, 3) := by decide +kernel
set_option maxRecDepth 100000 in
theorem wf_X2_139 : Cond.fieldLinkNest RX2 139 "StoneTrust$Village" "poundLow" "[I" "StoneTrust" ∈ nests := nm_ (List.mem_of_getElem? (i := 234) (by decide +kernel)) rfl
theorem dX2_readPound_98 : decode cX2_readPound 98 = .ok (.iload_n 1, 1) := by decide +kernel
theorem dX2_readPound_99 : decode cX2_readPound 99 = .ok (.iload_n 2, 1) := by decide +kernel
theorem dX2_readPound_100 : decode cX2_readPound 100 = .ok (.iastore, 1) := by decide +kernel
theorem dX2_readPound_101 : decode cX2_readPound 101 = .ok (.aload_n 0, 1) := by decide +kernel
theorem dX2_readPound_102 : decode cX2_readPound 102 = .ok (.getfield 21, 3) := by decide +kernel
theorem dX2_readPound_105 : decode cX2_readPound 105 = .ok (.getfield 143, 3) := by decide +kernel
set_option maxRecDepth 100000 in
theorem wf_X2_143 : Cond.fieldLinkNest RX2 143 "StoneTrust$Village" "poundHigh" "[I" "StoneTrust" ∈ nests := nm_ (List.mem_of_getElem? (i := 237) (by decide +kernel)) rfl
theorem dX2_readPound_108 : decode cX2_readPound 108 = .ok (.iload_n 1, 1) := by decide +kernel
theorem dX2_readPound_109 : decode cX2_readPound 109 = .ok (.aload_n 0, 1) := by decide +kernel
theorem dX2_readPound_110 : decode cX2_readPound 110 = .ok (.getfield 25, 3) := by decide +kernel
theorem dX2_readPound_113 : decode cX2_readPound 113 = .ok (.iastore, 1) := by decide +kernel
theorem dX2_readPound_114 : decode cX2_readPound 114 = .ok (.aload_n 0, 1) := by decide +kernel
theorem dX2_readPound_115 : decode cX2_readPound 115 = .ok (.dup, 1) := by decide +kernel
theorem dX2_readPound_116 : decode cX2_readPound 116 = .ok (.getfield 36, 3) := by decide +kernel
theorem dX2_readPound_119 : decode cX2_readPound 119 = .ok (.iconst 1, 1) := by decide +kernel
theorem dX2_readPound_120 : decode cX2_readPound 120 = .ok (.iload_n 1, 1) := by decide +kernel
theorem dX2_readPound_121 : decode cX2_readPound 121 = .ok (.ishl, 1) := by decide +kernel
theorem dX2_readPound_122 : decode cX2_readPound 122 = .ok (.ior, 1) := by decide +kernel
theorem dX2_readPound_123 : decode cX2_readPound 123 = .ok (.putfield 36, 3) := by decide +kernel
theorem dX2_readPound_126 : decode cX2_readPound 126 = .ok (.aload_n 0, 1) := by decide +kernel
theorem dX2_readPound_127 : decode cX2_readPound 127 = .ok (.invokevirtual 128, 3) := by decide +kernel
theorem dX2_readPound_130 : decode cX2_readPound 130 = .ok (.ireturn, 1) := by decide +kernel
theorem dX2_readPound_14 : decode cX2_readPound 14 = .ok (.aload_n 0, 1) := by decide +kernel
theorem dX2_readPound_15 : decode cX2_readPound 15 = .ok (.iconst 3, 1) := by decide +kernel
theorem dX2_readPound_16 : decode cX2_readPound 16 = .ok (.invokevirtual 100, 3) := by decide +kernel
theorem dX2_readPound_19 : decode cX2_readPound 19 = .ok (.ireturn, 1) := by decide +kernel
set_option maxHeartbeats 4000000 in
set_option maxRecDepth 100000 in
theorem c59_X2_readPound (l : Launch) (G : va_G) (cI cJ cB cZ : ClassId) (a0 a1 a2 a3 a4 a5 a6 a7 a8 a9 a10 a11 a12 a13 a14 : Nat) (v_rd_2 : Int32) (v_rd_3 : Int32) (v_rd_4 : Int32) (v_rd_5 : Int32) (v_rd_6 : Int32) (v_rd_7 : Int32) (v_tp_1 : Int32) (v_tp_2 : Int32) (v_tp_3 : Int32) (v_tp_4 : Int32) (w_tp_5 : Int64) (v_tp_6 : Int32) (v_M_0 : Int32) (v_M_1 : Int32) (v_M_2 : Int32) (v_M_5 : Int32) (g_tp_bytes : Nat → Int32) (g_M_poundLow : Nat → Int32) (g_M_poundHigh : Nat → Int32) (hv_0 : 0 ≤ v_rd_3.toInt) (hv_1 : v_rd_3.toInt ≤ 1) (hv_2 : 0 ≤ v_rd_4.toInt) (hv_3 : v_rd_4.toInt ≤ 1) (hv_4 : 0 ≤ v_tp_1.toInt) (hv_5 : v_tp_1.toInt ≤ 1300) (hv_6 : 0 ≤ v_tp_2.toInt) (hv_7 : v_tp_2.toInt ≤ 1300) (hv_8 : 0 ≤ v_M_0.toInt) (hv_9 : v_M_0.toInt ≤ 110) (hv_10 : 0 ≤ v_M_1.toInt) (hv_11 : v_M_1.toInt ≤ 110) (hv_12 : 0 ≤ v_M_5.toInt) (hv_13 : v_M_5.toInt ≤ 6) (hT_g_tp_bytes : TA (-128) 127 g_tp_bytes) (hT_g_M_poundLow : TA 0 40 g_M_poundLow) (hT_g_M_poundHigh : TA 0 40 g_M_poundHigh) : Con l G (TY cI cJ cB cZ) yX2_readPound cX2_readPound 3 (some .boolean) ({ frames := 4, cells := 0, slots := 0, locals := 83 } : Room) [.ref a0] [(a0, .inr (2, [.ref a1, .ref a2, .int v_rd_2, .int v_rd_3, .int v_rd_4, .int v_rd_5, .int v_rd_6, .int v_rd_7])), (a1, .inr (5, [.ref a3, .int v_tp_1, .int v_tp_2, .int v_tp_3, .int v_tp_4, .long w_tp_5, .int v_tp_6])), (a3, .inl (cB, 1300, .inl g_tp_bytes)), (a2, .inr (7, [.int v_M_0, .int v_M_1, .int v_M_2, .ref a4, .ref a5, .int v_M_5, .ref a6, .ref a7, .ref a8, .ref a9, .ref a10, .ref a11, .ref a12, .ref a13, .ref a14])), (a4, .inl (cI, 2, .inl g_M_poundLow)), (a5, .inl (cI, 2, .inl g_M_poundHigh))] (QI G (TY cI cJ cB cZ) (fun (r : Int32) (u : Int32 × Int32 × Int32 × Int32 × Int32 × Int32 × Int32 × Int64 × Int32 × (Nat → Int32) × (Nat → Int32)) => (0 ≤ r.toInt ∧ r.toInt ≤ 1 ∧ 0 ≤ u.2.2.2.2.1.toInt ∧ u.2.2.2.2.1.toInt ≤ 1300) ∧ TA 0 40 u.2.2.2.2.2.2.2.2.2.1 ∧ TA 0 40 u.2.2.2.2.2.2.2.2.2.2) (fun u : Int32 × Int32 × Int32 × Int32 × Int32 × Int32 × Int32 × Int64 × Int32 × (Nat → Int32) × (Nat → Int32) => [(a0, .inr (2, [.ref a1, .ref a2, .int u.1, .int v_rd_3, .int v_rd_4, .int u.2.1, .int u.2.2.1, .int u.2.2.2.1])), (a1, .inr (5, [.ref a3, .int v_tp_1, .int u.2.2.2.2.1, .int u.2.2.2.2.2.1, .int u.2.2.2.2.2.2.1, .long u.2.2.2.2.2.2.2.1, .int u.2.2.2.2.2.2.2.2.1])), (a3, .inl (cB, 1300, .inl g_tp_bytes)), (a2, .inr (7, [.int v_M_0, .int v_M_1, .int v_M_2, .ref a4, .ref a5, .int v_M_5, .ref a6, .ref a7, .ref a8, .ref a9, .ref a10, .ref a11, .ref a12, .ref a13, .ref a14])), (a4, .inl (cI, 2, .inl u.2.2.2.2.2.2.2.2.2.1)), (a5, .inl (cI, 2, .inl u.2.2.2.2.2.2.2.2.2.2))])) := by
  refine k_met (by decide) (Nat.le_of_ble_eq_true rfl) ?_
  intro p e s m below meth c A ls hC hr hlk hnm hN hZ hK hA hP hD hS hl
  have hl : lv_has ls 3 [(0, .ref a0)] := hl
  generalize hQm : MQ below _ _ s _ _ A = Qm
  generalize (List.toArray _ : Array Value) = args at hC hQm ⊢
  obtain ⟨hx, hb, hml, hown, hts⟩ := id hC
  obtain ⟨H, hH⟩ : ∃ q, q = s.heap := ⟨_, rfl⟩
  obtain ⟨locs, hlo⟩ : ∃ q : List Loc, q = [] := ⟨_, rfl⟩
  have hP : va_P G cl [(a0, .inr (2, [.ref a1, .ref a2, .int v_rd_2, .int v_rd_3, .int v_rd_4, .int v_rd_5, .int v_rd_6, .int v_rd_7])), (a1, .inr (5, [.ref a3, .int v_tp_1, .int v_tp_2, .int v_tp_3, .int v_tp_4, .long w_tp_5, .int v_tp_6])), (a3, .inl (cB, 1300, .inl g_tp_bytes)), (a2, .inr (7, [.int v_M_0, .int v_M_1, .int v_M_2, .ref a4, .ref a5, .int v_M_5, .ref a6, .ref a7, .ref a8, .ref a9, .ref a10, .ref a11, .ref a12, .ref a13, .ref a14])), (a4, .inl (cI, 2, .inl g_M_poundLow)), (a5, .inl (cI, 2, .inl g_M_poundHigh))] H := by rw [hH]; exact hP
  have hS : va_S A s.heap H locs := by rw [hH, hlo]; exact hS
  rw [← hlo]
  rw [← hH]
  refine lv_aload_n hx hb dX2_readPound_0 rfl (lv_at hl 0 rfl) ?_
  refine k_get hC hK hP iX2 0 0 wf_X2_12 rfl (by decide) rfl rfl dX2_readPound_1 ?_
  refine k_cv (wr := [(a0, .inr (2, [.ref a1, .ref a2, .int v_rd_2, .int v_rd_3, .int v_rd_4, .int v_rd_5, .int v_rd_6, .int v_rd_7])), (a2, .inr (7, [.int v_M_0, .int v_M_1, .int v_M_2, .ref a4, .ref a5, .int v_M_5, .ref a6, .ref a7, .ref a8, .ref a9, .ref a10, .ref a11, .ref a12, .ref a13, .ref a14])), (a4, .inl (cI, 2, .inl g_M_poundLow)), (a5, .inl (cI, 2, .inl g_M_poundHigh))]) (k_rV hC hN hZ hS hA hK hP hD (c20_X5_advance l G cI cJ cB cZ a1 a3 v_tp_1 v_tp_2 v_tp_3 v_tp_4 w_tp_5 v_tp_6 g_tp_bytes hv_4 hv_5 hv_6 hv_7 hT_g_tp_bytes) [1, 2] rfl (by decide +kernel) mi_X5_advance in_X5_advance se_X5_advance wm_X2_104 5 1 rfl rfl rfl hl.1 rfl rfl (Nat.le_of_ble_eq_true rfl) ⟨(Nat.le_of_ble_eq_true rfl), (Nat.le_of_ble_eq_true rfl)⟩ dX2_readPound_4 ⟨(Nat.le_of_ble_eq_true rfl), (Nat.le_of_ble_eq_true rfl)⟩) hP hD hS hA [1, 2] [0, 3, 4, 5] rfl rfl (by decide +kernel) (by decide +kernel) (fun u1 H locs hp hP hD hS => ?_)
  obtain ⟨h2, h3, h4, y5, h6⟩ := u1
  have hp : (0 ≤ h2.toInt ∧ h2.toInt ≤ 1300 ∧ 0 ≤ h3.toInt ∧ h3.toInt ≤ 1300 ∧ 0 ≤ h4.toInt ∧ h4.toInt ≤ 4) := hp
  have hP : va_P G cl [(a0, .inr (2, [.ref a1, .ref a2, .int v_rd_2, .int v_rd_3, .int v_rd_4, .int v_rd_5, .int v_rd_6, .int v_rd_7])), (a2, .inr (7, [.int v_M_0, .int v_M_1, .int v_M_2, .ref a4, .ref a5, .int v_M_5, .ref a6, .ref a7, .ref a8, .ref a9, .ref a10, .ref a11, .ref a12, .ref a13, .ref a14])), (a4, .inl (cI, 2, .inl g_M_poundLow)), (a5, .inl (cI, 2, .inl g_M_poundHigh)), (a1, .inr (5, [.ref a3, .int v_tp_1, .int h2, .int h3, .int h4, .long y5, .int h6])), (a3, .inl (cB, 1300, .inl g_tp_bytes))] H := hP
  have hD : va_D A [(a0, .inr (2, [.ref a1, .ref a2, .int v_rd_2, .int v_rd_3, .int v_rd_4, .int v_rd_5, .int v_rd_6, .int v_rd_7])), (a2, .inr (7, [.int v_M_0, .int v_M_1, .int v_M_2, .ref a4, .ref a5, .int v_M_5, .ref a6, .ref a7, .ref a8, .ref a9, .ref a10, .ref a11, .ref a12, .ref a13, .ref a14])), (a4, .inl (cI, 2, .inl g_M_poundLow)), (a5, .inl (cI, 2, .inl g_M_poundHigh)), (a1, .inr (5, [.ref a3, .int v_tp_1, .int h2, .int h3, .int h4, .long y5, .int h6])), (a3, .inl (cB, 1300, .inl g_tp_bytes))] := hD
  have hq1 := hp
  refine lv_aload_n hx hb dX2_readPound_7 rfl (lv_at hl 0 rfl) ?_
  refine k_ci (wr := [(a2, .inr (7, [.int v_M_0, .int v_M_1, .int v_M_2, .ref a4, .ref a5, .int v_M_5, .ref a6, .ref a7, .ref a8, .ref a9, .ref a10, .ref a11, .ref a12, .ref a13, .ref a14])), (a4, .inl (cI, 2, .inl g_M_poundLow)), (a5, .inl (cI, 2, .inl g_M_poundHigh)), (a3, .inl (cB, 1300, .inl g_tp_bytes))]) (k_rV hC hN hZ hS hA hK hP hD (c55_X2_isPoundTold l G cI cJ cB cZ a0 a1 a2 a3 v_rd_2 v_rd_3 v_rd_4 v_rd_5 v_rd_6 v_rd_7 v_tp_1 h2 h3 h4 y5 h6 hv_0 hv_1 hv_2 hv_3 hv_4 hv_5 (by omega) (by omega)) [0, 4] rfl (by decide +kernel) mi_X2_isPoundTold in_X2_isPoundTold se_X2_isPoundTold wm_X2_134 2 0 rfl rfl rfl hl.1 rfl rfl (Nat.le_of_ble_eq_true rfl) ⟨(Nat.le_of_ble_eq_true rfl), (Nat.le_of_ble_eq_true rfl)⟩ dX2_readPound_8 ⟨(Nat.le_of_ble_eq_true rfl), (Nat.le_of_ble_eq_true rfl)⟩) hP hD hS hA [0, 4] [1, 2, 3, 5] rfl rfl (by decide +kernel) (by decide +kernel) (fun r7 u7 H locs hp hP hD hS => ?_)
  have hp : (0 ≤ r7.toInt ∧ r7.toInt ≤ 1) := hp
  have hP : va_P G cl [(a2, .inr (7, [.int v_M_0, .int v_M_1, .int v_M_2, .ref a4, .ref a5, .int v_M_5, .ref a6, .ref a7, .ref a8, .ref a9, .ref a10, .ref a11, .ref a12, .ref a13, .ref a14])), (a4, .inl (cI, 2, .inl g_M_poundLow)), (a5, .inl (cI, 2, .inl g_M_poundHigh)), (a3, .inl (cB, 1300, .inl g_tp_bytes)), (a0, .inr (2, [.ref a1, .ref a2, .int v_rd_2, .int v_rd_3, .int v_rd_4, .int v_rd_5, .int v_rd_6, .int v_rd_7])), (a1, .inr (5, [.ref a3, .int v_tp_1, .int h2, .int h3, .int h4, .long y5, .int h6]))] H := hP
  have hD : va_D A [(a2, .inr (7, [.int v_M_0, .int v_M_1, .int v_M_2, .ref a4, .ref a5, .int v_M_5, .ref a6, .ref a7, .ref a8, .ref a9, .ref a10, .ref a11, .ref a12, .ref a13, .ref a14])), (a4, .inl (cI, 2, .inl g_M_poundLow)), (a5, .inl (cI, 2, .inl g_M_poundHigh)), (a3, .inl (cB, 1300, .inl g_tp_bytes)), (a0, .inr (2, [.ref a1, .ref a2, .int v_rd_2, .int v_rd_3, .int v_rd_4, .int v_rd_5, .int v_rd_6, .int v_rd_7])), (a1, .inr (5, [.ref a3, .int v_tp_1, .int h2, .int h3, .int h4, .long y5, .int h6]))] := hD
  have hq7 := hp
  refine lv_if_eq (tgt := 20) hx hb dX2_readPound_11 (by decide) (fun c8 => ?_) (fun c8 => ?_)
  · have dc8 : r7.toInt = 0 := (fa_eq _ _).mp c8
    refine lv_aload_n hx hb dX2_readPound_20 rfl (lv_at hl 0 rfl) ?_
    refine lv_iconst (v := 0) hx hb dX2_readPound_21 (by decide) ?_
    refine lv_iconst (v := 1) hx hb dX2_readPound_22 (by decide) ?_
    refine k_ci (wr := [(a2, .inr (7, [.int v_M_0, .int v_M_1, .int v_M_2, .ref a4, .ref a5, .int v_M_5, .ref a6, .ref a7, .ref a8, .ref a9, .ref a10, .ref a11, .ref a12, .ref a13, .ref a14])), (a4, .inl (cI, 2, .inl g_M_poundLow)), (a5, .inl (cI, 2, .inl g_M_poundHigh))]) (k_rV hC hN hZ hS hA hK hP hD (c56_X2_takeNumber l G cI cJ cB cZ a0 a1 a2 a3 v_rd_2 v_rd_3 v_rd_4 v_rd_5 v_rd_6 v_rd_7 v_tp_1 h2 h3 h4 y5 h6 g_tp_bytes hv_0 hv_1 hv_2 hv_3 hv_4 hv_5 (by omega) (by omega) hT_g_tp_bytes) [4, 5, 3] rfl (by decide +kernel) mi_X2_takeNumber in_X2_takeNumber se_X2_takeNumber wm_X2_107 2 4 rfl rfl rfl hl.1 rfl rfl (Nat.le_of_ble_eq_true rfl) ⟨(Nat.le_of_ble_eq_true rfl), (Nat.le_of_ble_eq_true rfl)⟩ dX2_readPound_23 ⟨(Nat.le_of_ble_eq_true rfl), (Nat.le_of_ble_eq_true rfl)⟩) hP hD hS hA [4, 5, 3] [0, 1, 2] rfl rfl (by decide +kernel) (by decide +kernel) (fun r9 u9 H locs hp hP hD hS => ?_)
    obtain ⟨h10, h11, h12, h13, h14, h15, y16, h17⟩ := u9
    have hP : va_P G cl [(a2, .inr (7, [.int v_M_0, .int v_M_1, .int v_M_2, .ref a4, .ref a5, .int v_M_5, .ref a6, .ref a7, .ref a8, .ref a9, .ref a10, .ref a11, .ref a12, .ref a13, .ref a14])), (a4, .inl (cI, 2, .inl g_M_poundLow)), (a5, .inl (cI, 2, .inl g_M_poundHigh)), (a0, .inr (2, [.ref a1, .ref a2, .int h10, .int v_rd_3, .int v_rd_4, .int v_rd_5, .int h11, .int h12])), (a1, .inr (5, [.ref a3, .int v_tp_1, .int h13, .int h14, .int h15, .long y16, .int h17])), (a3, .inl (cB, 1300, .inl g_tp_bytes))] H := hP
    have hD : va_D A [(a2, .inr (7, [.int v_M_0, .int v_M_1, .int v_M_2, .ref a4, .ref a5, .int v_M_5, .ref a6, .ref a7, .ref a8, .ref a9, .ref a10, .ref a11, .ref a12, .ref a13, .ref a14])), (a4, .inl (cI, 2, .inl g_M_poundLow)), (a5, .inl (cI, 2, .inl g_M_poundHigh)), (a0, .inr (2, [.ref a1, .ref a2, .int h10, .int v_rd_3, .int v_rd_4, .int v_rd_5, .int h11, .int h12])), (a1, .inr (5, [.ref a3, .int v_tp_1, .int h13, .int h14, .int h15, .long y16, .int h17])), (a3, .inl (cB, 1300, .inl g_tp_bytes))] := hD
    rcases (show (r9 = 0 ∧ (0 ≤ h13.toInt ∧ h13.toInt ≤ 1300)) ∨ (r9 = 1 ∧ (0 ≤ h10.toInt ∧ h10.toInt ≤ 1 ∧ 0 ≤ h13.toInt ∧ h13.toInt ≤ 1300 ∧ 0 ≤ h14.toInt ∧ h14.toInt ≤ 1300 ∧ 0 ≤ h15.toInt ∧ h15.toInt ≤ 4)) from hp) with ⟨rfl, hq9⟩ | ⟨rfl, hq9⟩
    · clear hp
      have l_9 : (0 : Int32).toInt = 0 := rfl
      refine lv_if_ne (tgt := 31) hx hb dX2_readPound_26 (by decide) (fun c_ => absurd (by decide +kernel) c_) (fun _ => ?_)
      refine lv_iconst (v := 0) hx hb dX2_readPound_29 (by decide) ?_
      have l_l18 : (0 : Int32).toInt = 0 := rfl
      rw [← hQm]
      exact k_zret hC hr hlk hK hP hD hS (h10, v_rd_5, h11, h12, h13, h14, h15, y16, h17, g_M_poundLow, g_M_poundHigh) [3, 4, 5, 0, 1, 2] rfl (by decide +kernel) rfl ⟨(show 0 ≤ (0 : Int32).toInt ∧ (0 : Int32).toInt ≤ 1 ∧ 0 ≤ h13.toInt ∧ h13.toInt ≤ 1300 from by omega), hT_g_M_poundLow, hT_g_M_poundHigh⟩ (Nat.le_of_ble_eq_true rfl) (Nat.le_of_ble_eq_true rfl) dX2_readPound_30
    · clear hp
      have l_9 : (1 : Int32).toInt = 1 := rfl
      refine lv_if_ne (tgt := 31) hx hb dX2_readPound_26 (by decide) (fun _ => ?_) (fun c_ => absurd c_ (by decide +kernel))
      refine lv_aload_n hx hb dX2_readPound_31 rfl (lv_at hl 0 rfl) ?_
      refine k_get hC hK hP iX2 3 2 wf_X2_25 rfl (by decide) rfl rfl dX2_readPound_32 ?_
      refine lv_istore_n (lv' := [(1, .int h10), (0, .ref a0)]) hx hb dX2_readPound_35 rfl hl (by decide) rfl (fun ls hl => ?_)
      refine lv_aload_n hx hb dX2_readPound_36 rfl (lv_at hl 1 rfl) ?_
      refine lv_ldc2 (v := 1718775661) hx hb hown (hts _ kl_X2_137) dX2_readPound_37 ?_
      refine k_ci (wr := [(a2, .inr (7, [.int v_M_0, .int v_M_1, .int v_M_2, .ref a4, .ref a5, .int v_M_5, .ref a6, .ref a7, .ref a8, .ref a9, .ref a10, .ref a11, .ref a12, .ref a13, .ref a14])), (a4, .inl (cI, 2, .inl g_M_poundLow)), (a5, .inl (cI, 2, .inl g_M_poundHigh))]) (k_rV hC hN hZ hS hA hK hP hD (c49_X2_takeWord l G cI cJ cB cZ a0 a1 a2 a3 1718775661 h10 v_rd_3 v_rd_4 v_rd_5 h11 h12 v_tp_1 h13 h14 h15 y16 h17 g_tp_bytes hv_0 hv_1 hv_2 hv_3 hv_4 hv_5 (by omega) (by omega) hT_g_tp_bytes) [3, 4, 5] rfl (by decide +kernel) mi_X2_takeWord in_X2_takeWord se_X2_takeWord wm_X2_113 2 3 rfl rfl rfl hl.1 rfl rfl (Nat.le_of_ble_eq_true rfl) ⟨(Nat.le_of_ble_eq_true rfl), (Nat.le_of_ble_eq_true rfl)⟩ dX2_readPound_40 ⟨(Nat.le_of_ble_eq_true rfl), (Nat.le_of_ble_eq_true rfl)⟩) hP hD hS hA [3, 4, 5] [0, 1, 2] rfl rfl (by decide +kernel) (by decide +kernel) (fun r19 u19 H locs hp hP hD hS => ?_)
      obtain ⟨h20, h21, h22, h23, h24, y25, h26⟩ := u19
      have hp : (0 ≤ r19.toInt ∧ r19.toInt ≤ 1 ∧ 0 ≤ h22.toInt ∧ h22.toInt ≤ 1300) := hp
      have hP : va_P G cl [(a2, .inr (7, [.int v_M_0, .int v_M_1, .int v_M_2, .ref a4, .ref a5, .int v_M_5, .ref a6, .ref a7, .ref a8, .ref a9, .ref a10, .ref a11, .ref a12, .ref a13, .ref a14])), (a4, .inl (cI, 2, .inl g_M_poundLow)), (a5, .inl (cI, 2, .inl g_M_poundHigh)), (a0, .inr (2, [.ref a1, .ref a2, .int h10, .int v_rd_3, .int v_rd_4, .int v_rd_5, .int h20, .int h21])), (a1, .inr (5, [.ref a3, .int v_tp_1, .int h22, .int h23, .int h24, .long y25, .int h26])), (a3, .inl (cB, 1300, .inl g_tp_bytes))] H := hP
      have hD : va_D A [(a2, .inr (7, [.int v_M_0, .int v_M_1, .int v_M_2, .ref a4, .ref a5, .int v_M_5, .ref a6, .ref a7, .ref a8, .ref a9, .ref a10, .ref a11, .ref a12, .ref a13, .ref a14])), (a4, .inl (cI, 2, .inl g_M_poundLow)), (a5, .inl (cI, 2, .inl g_M_poundHigh)), (a0, .inr (2, [.ref a1, .ref a2, .int h10, .int v_rd_3, .int v_rd_4, .int v_rd_5, .int h20, .int h21])), (a1, .inr (5, [.ref a3, .int v_tp_1, .int h22, .int h23, .int h24, .long y25, .int h26])), (a3, .inl (cB, 1300, .inl g_tp_bytes))] := hD
      have hq19 := hp
      refine lv_if_eq (tgt := 56) hx hb dX2_readPound_43 (by decide) (fun c27 => ?_) (fun c27 => ?_)
      · have dc27 : r19.toInt = 0 := (fa_eq _ _).mp c27
        refine lv_iconst (v := 0) hx hb dX2_readPound_56 (by decide) ?_
        have l_l28 : (0 : Int32).toInt = 0 := rfl
        rw [← hQm]
        exact k_zret hC hr hlk hK hP hD hS (h10, v_rd_5, h20, h21, h22, h23, h24, y25, h26, g_M_poundLow, g_M_poundHigh) [3, 4, 5, 0, 1, 2] rfl (by decide +kernel) rfl ⟨(show 0 ≤ (0 : Int32).toInt ∧ (0 : Int32).toInt ≤ 1 ∧ 0 ≤ h22.toInt ∧ h22.toInt ≤ 1300 from by omega), hT_g_M_poundLow, hT_g_M_poundHigh⟩ (Nat.le_of_ble_eq_true rfl) (Nat.le_of_ble_eq_true rfl) dX2_readPound_57
      · have dc27 : r19.toInt ≠ 0 := fa_ne c27
        refine lv_aload_n hx hb dX2_readPound_46 rfl (lv_at hl 1 rfl) ?_
        refine lv_iconst (v := 1) hx hb dX2_readPound_47 (by decide) ?_
        refine lv_bipush (v := 40) hx hb dX2_readPound_48 (by decide) ?_
        refine k_ci (wr := [(a2, .inr (7, [.int v_M_0, .int v_M_1, .int v_M_2, .ref a4, .ref a5, .int v_M_5, .ref a6, .ref a7, .ref a8, .ref a9, .ref a10, .ref a11, .ref a12, .ref a13, .ref a14])), (a4, .inl (cI, 2, .inl g_M_poundLow)), (a5, .inl (cI, 2, .inl g_M_poundHigh))]) (k_rV hC hN hZ hS hA hK hP hD (c57_X2_takeNumber l G cI cJ cB cZ a0 a1 a2 a3 h10 v_rd_3 v_rd_4 v_rd_5 h20 h21 v_tp_1 h22 h23 h24 y25 h26 g_tp_bytes hv_0 hv_1 hv_2 hv_3 hv_4 hv_5 (by omega) (by omega) hT_g_tp_bytes) [3, 4, 5] rfl (by decide +kernel) mi_X2_takeNumber in_X2_takeNumber se_X2_takeNumber wm_X2_107 2 3 rfl rfl rfl hl.1 rfl rfl (Nat.le_of_ble_eq_true rfl) ⟨(Nat.le_of_ble_eq_true rfl), (Nat.le_of_ble_eq_true rfl)⟩ dX2_readPound_50 ⟨(Nat.le_of_ble_eq_true rfl), (Nat.le_of_ble_eq_true rfl)⟩) hP hD hS hA [3, 4, 5] [0, 1, 2] rfl rfl (by decide +kernel) (by decide +kernel) (fun r29 u29 H locs hp hP hD hS => ?_)
        obtain ⟨h30, h31, h32, h33, h34, h35, y36, h37⟩ := u29
        have hP : va_P G cl [(a2, .inr (7, [.int v_M_0, .int v_M_1, .int v_M_2, .ref a4, .ref a5, .int v_M_5, .ref a6, .ref a7, .ref a8, .ref a9, .ref a10, .ref a11, .ref a12, .ref a13, .ref a14])), (a4, .inl (cI, 2, .inl g_M_poundLow)), (a5, .inl (cI, 2, .inl g_M_poundHigh)), (a0, .inr (2, [.ref a1, .ref a2, .int h30, .int v_rd_3, .int v_rd_4, .int v_rd_5, .int h31, .int h32])), (a1, .inr (5, [.ref a3, .int v_tp_1, .int h33, .int h34, .int h35, .long y36, .int h37])), (a3, .inl (cB, 1300, .inl g_tp_bytes))] H := hP
        have hD : va_D A [(a2, .inr (7, [.int v_M_0, .int v_M_1, .int v_M_2, .ref a4, .ref a5, .int v_M_5, .ref a6, .ref a7, .ref a8, .ref a9, .ref a10, .ref a11, .ref a12, .ref a13, .ref a14])), (a4, .inl (cI, 2, .inl g_M_poundLow)), (a5, .inl (cI, 2, .inl g_M_poundHigh)), (a0, .inr (2, [.ref a1, .ref a2, .int h30, .int v_rd_3, .int v_rd_4, .int v_rd_5, .int h31, .int h32])), (a1, .inr (5, [.ref a3, .int v_tp_1, .int h33, .int h34, .int h35, .long y36, .int h37])), (a3, .inl (cB, 1300, .inl g_tp_bytes))] := hD
        rcases (show (r29 = 0 ∧ (0 ≤ h33.toInt ∧ h33.toInt ≤ 1300)) ∨ (r29 = 1 ∧ (1 ≤ h30.toInt ∧ h30.toInt ≤ 40 ∧ 0 ≤ h33.toInt ∧ h33.toInt ≤ 1300 ∧ 0 ≤ h34.toInt ∧ h34.toInt ≤ 1300 ∧ 0 ≤ h35.toInt ∧ h35.toInt ≤ 4)) from hp) with ⟨rfl, hq29⟩ | ⟨rfl, hq29⟩
        · clear hp
          have l_29 : (0 : Int32).toInt = 0 := rfl
          refine lv_if_ne (tgt := 58) hx hb dX2_readPound_53 (by decide) (fun c_ => absurd (by decide +kernel) c_) (fun _ => ?_)
          refine lv_iconst (v := 0) hx hb dX2_readPound_56 (by decide) ?_
          have l_l38 : (0 : Int32).toInt = 0 := rfl
          rw [← hQm]
          exact k_zret hC hr hlk hK hP hD hS (h30, v_rd_5, h31, h32, h33, h34, h35, y36, h37, g_M_poundLow, g_M_poundHigh) [3, 4, 5, 0, 1, 2] rfl (by decide +kernel) rfl ⟨(show 0 ≤ (0 : Int32).toInt ∧ (0 : Int32).toInt ≤ 1 ∧ 0 ≤ h33.toInt ∧ h33.toInt ≤ 1300 from by omega), hT_g_M_poundLow, hT_g_M_poundHigh⟩ (Nat.le_of_ble_eq_true rfl) (Nat.le_of_ble_eq_true rfl) dX2_readPound_57
        · clear hp
          have l_29 : (1 : Int32).toInt = 1 := rfl
          refine lv_if_ne (tgt := 58) hx hb dX2_readPound_53 (by decide) (fun _ => ?_) (fun c_ => absurd c_ (by decide +kernel))
          refine lv_aload_n hx hb dX2_readPound_58 rfl (lv_at hl 1 rfl) ?_
          refine k_get hC hK hP iX2 3 2 wf_X2_25 rfl (by decide) rfl rfl dX2_readPound_59 ?_
          refine lv_istore_n (lv' := [(2, .int h30), (1, .int h10), (0, .ref a0)]) hx hb dX2_readPound_62 rfl hl (by decide) rfl (fun ls hl => ?_)
          refine lv_aload_n hx hb dX2_readPound_63 rfl (lv_at hl 2 rfl) ?_
          refine lv_ldc2 (v := 29807) hx hb hown (hts _ kl_X2_111) dX2_readPound_64 ?_
          refine k_ci (wr := [(a2, .inr (7, [.int v_M_0, .int v_M_1, .int v_M_2, .ref a4, .ref a5, .int v_M_5, .ref a6, .ref a7, .ref a8, .ref a9, .ref a10, .ref a11, .ref a12, .ref a13, .ref a14])), (a4, .inl (cI, 2, .inl g_M_poundLow)), (a5, .inl (cI, 2, .inl g_M_poundHigh))]) (k_rV hC hN hZ hS hA hK hP hD (c49_X2_takeWord l G cI cJ cB cZ a0 a1 a2 a3 29807 h30 v_rd_3 v_rd_4 v_rd_5 h31 h32 v_tp_1 h33 h34 h35 y36 h37 g_tp_bytes hv_0 hv_1 hv_2 hv_3 hv_4 hv_5 (by omega) (by omega) hT_g_tp_bytes) [3, 4, 5] rfl (by decide +kernel) mi_X2_takeWord in_X2_takeWord se_X2_takeWord wm_X2_113 2 3 rfl rfl rfl hl.1 rfl rfl (Nat.le_of_ble_eq_true rfl) ⟨(Nat.le_of_ble_eq_true rfl), (Nat.le_of_ble_eq_true rfl)⟩ dX2_readPound_67 ⟨(Nat.le_of_ble_eq_true rfl), (Nat.le_of_ble_eq_true rfl)⟩) hP hD hS hA [3, 4, 5] [0, 1, 2] rfl rfl (by decide +kernel) (by decide +kernel) (fun r39 u39 H locs hp hP hD hS => ?_)
          obtain ⟨h40, h41, h42, h43, h44, y45, h46⟩ := u39
          have hp : (0 ≤ r39.toInt ∧ r39.toInt ≤ 1 ∧ 0 ≤ h42.toInt ∧ h42.toInt ≤ 1300) := hp
          have hP : va_P G cl [(a2, .inr (7, [.int v_M_0, .int v_M_1, .int v_M_2, .ref a4, .ref a5, .int v_M_5, .ref a6, .ref a7, .ref a8, .ref a9, .ref a10, .ref a11, .ref a12, .ref a13, .ref a14])), (a4, .inl (cI, 2, .inl g_M_poundLow)), (a5, .inl (cI, 2, .inl g_M_poundHigh)), (a0, .inr (2, [.ref a1, .ref a2, .int h30, .int v_rd_3, .int v_rd_4, .int v_rd_5, .int h40, .int h41])), (a1, .inr (5, [.ref a3, .int v_tp_1, .int h42, .int h43, .int h44, .long y45, .int h46])), (a3, .inl (cB, 1300, .inl g_tp_bytes))] H := hP
          have hD : va_D A [(a2, .inr (7, [.int v_M_0, .int v_M_1, .int v_M_2, .ref a4, .ref a5, .int v_M_5, .ref a6, .ref a7, .ref a8, .ref a9, .ref a10, .ref a11, .ref a12, .ref a13, .ref a14])), (a4, .inl (cI, 2, .inl g_M_poundLow)), (a5, .inl (cI, 2, .inl g_M_poundHigh)), (a0, .inr (2, [.ref a1, .ref a2, .int h30, .int v_rd_3, .int v_rd_4, .int v_rd_5, .int h40, .int h41])), (a1, .inr (5, [.ref a3, .int v_tp_1, .int h42, .int h43, .int h44, .long y45, .int h46])), (a3, .inl (cB, 1300, .inl g_tp_bytes))] := hD
          have hq39 := hp
          refine lv_if_eq (tgt := 89) hx hb dX2_readPound_70 (by decide) (fun c47 => ?_) (fun c47 => ?_)
          · have dc47 : r39.toInt = 0 := (fa_eq _ _).mp c47
            refine lv_iconst (v := 0) hx hb dX2_readPound_89 (by decide) ?_
            have l_l48 : (0 : Int32).toInt = 0 := rfl
            rw [← hQm]
            exact k_zret hC hr hlk hK hP hD hS (h30, v_rd_5, h40, h41, h42, h43, h44, y45, h46, g_M_poundLow, g_M_poundHigh) [3, 4, 5, 0, 1, 2] rfl (by decide +kernel) rfl ⟨(show 0 ≤ (0 : Int32).toInt ∧ (0 : Int32).toInt ≤ 1 ∧ 0 ≤ h42.toInt ∧ h42.toInt ≤ 1300 from by omega), hT_g_M_poundLow, hT_g_M_poundHigh⟩ (Nat.le_of_ble_eq_true rfl) (Nat.le_of_ble_eq_true rfl) dX2_readPound_90
          · have dc47 : r39.toInt ≠ 0 := fa_ne c47
            refine lv_aload_n hx hb dX2_readPound_73 rfl (lv_at hl 2 rfl) ?_
            refine lv_iload_n hx hb dX2_readPound_74 rfl (lv_at hl 0 rfl) ?_
            refine lv_bipush (v := 40) hx hb dX2_readPound_75 (by decide) ?_
            refine lv_iload_n hx hb dX2_readPound_77 rfl (lv_at hl 0 rfl) ?_
            refine lv_iconst (v := 4) hx hb dX2_readPound_78 (by decide) ?_
            refine lv_iadd hx hb dX2_readPound_79 ?_
            refine t_i (fun q => q.toInt = h30.toInt + 4) (add_i (by show (-2147483648 : Int) ≤ h30.toInt + 4; omega) (by show h30.toInt + 4 ≤ (2147483647 : Int); omega)) (fun z49 tz49 => ?_)
            refine va_mmin hx hb (hml.trans hl.1.symm) hown (hts _ wm_X2_116) (hts _ st_Mmin) (hts _ ini_Math) (hts _ co_Mmin) (Nat.le_of_ble_eq_true rfl) (Nat.le_of_ble_eq_true rfl) (Nat.le_of_ble_eq_true rfl) (Nat.le_of_ble_eq_true rfl) dX2_readPound_80 ?_
            refine t_i (fun q => q.toInt ≤ 40 ∧ q.toInt ≤ z49.toInt ∧ (q.toInt = 40 ∨ q.toInt = z49.toInt)) (min_b 40 z49) (fun z50 tz50 => ?_)
            refine k_ci (wr := [(a2, .inr (7, [.int v_M_0, .int v_M_1, .int v_M_2, .ref a4, .ref a5, .int v_M_5, .ref a6, .ref a7, .ref a8, .ref a9, .ref a10, .ref a11, .ref a12, .ref a13, .ref a14])), (a4, .inl (cI, 2, .inl g_M_poundLow)), (a5, .inl (cI, 2, .inl g_M_poundHigh))]) (k_rV hC hN hZ hS hA hK hP hD (c58_X2_takeNumber l G cI cJ cB cZ a0 a1 a2 a3 h30 z50 h30 v_rd_3 v_rd_4 v_rd_5 h40 h41 v_tp_1 h42 h43 h44 y45 h46 g_tp_bytes (by omega) (by omega) (by omega) (by omega) hv_0 hv_1 hv_2 hv_3 hv_4 hv_5 (by omega) (by omega) hT_g_tp_bytes) [3, 4, 5] rfl (by decide +kernel) mi_X2_takeNumber in_X2_takeNumber se_X2_takeNumber wm_X2_107 2 3 rfl rfl rfl hl.1 rfl rfl (Nat.le_of_ble_eq_true rfl) ⟨(Nat.le_of_ble_eq_true rfl), (Nat.le_of_ble_eq_true rfl)⟩ dX2_readPound_83 ⟨(Nat.le_of_ble_eq_true rfl), (Nat.le_of_ble_eq_true rfl)⟩) hP hD hS hA [3, 4, 5] [0, 1, 2] rfl rfl (by decide +kernel) (by decide +kernel) (fun r51 u51 H locs hp hP hD hS => ?_)
            obtain ⟨h52, h53, h54, h55, h56, h57, y58, h59⟩ := u51
            have hP : va_P G cl [(a2, .inr (7, [.int v_M_0, .int v_M_1, .int v_M_2, .ref a4, .ref a5, .int v_M_5, .ref a6, .ref a7, .ref a8, .ref a9, .ref a10, .ref a11, .ref a12, .ref a13, .ref a14])), (a4, .inl (cI, 2, .inl g_M_poundLow)), (a5, .inl (cI, 2, .inl g_M_poundHigh)), (a0, .inr (2, [.ref a1, .ref a2, .int h52, .int v_rd_3, .int v_rd_4, .int v_rd_5, .int h53, .int h54])), (a1, .inr (5, [.ref a3, .int v_tp_1, .int h55, .int h56, .int h57, .long y58, .int h59])), (a3, .inl (cB, 1300, .inl g_tp_bytes))] H := hP
            have hD : va_D A [(a2, .inr (7, [.int v_M_0, .int v_M_1, .int v_M_2, .ref a4, .ref a5, .int v_M_5, .ref a6, .ref a7, .ref a8, .ref a9, .ref a10, .ref a11, .ref a12, .ref a13, .ref a14])), (a4, .inl (cI, 2, .inl g_M_poundLow)), (a5, .inl (cI, 2, .inl g_M_poundHigh)), (a0, .inr (2, [.ref a1, .ref a2, .int h52, .int v_rd_3, .int v_rd_4, .int v_rd_5, .int h53, .int h54])), (a1, .inr (5, [.ref a3, .int v_tp_1, .int h55, .int h56, .int h57, .long y58, .int h59])), (a3, .inl (cB, 1300, .inl g_tp_bytes))] := hD
            rcases (show (r51 = 0 ∧ (0 ≤ h55.toInt ∧ h55.toInt ≤ 1300)) ∨ (r51 = 1 ∧ (1 ≤ h52.toInt ∧ h52.toInt ≤ 40 ∧ 0 ≤ h55.toInt ∧ h55.toInt ≤ 1300 ∧ 0 ≤ h56.toInt ∧ h56.toInt ≤ 1300 ∧ 0 ≤ h57.toInt ∧ h57.toInt ≤ 4)) from hp) with ⟨rfl, hq51⟩ | ⟨rfl, hq51⟩
            · clear hp
              have l_51 : (0 : Int32).toInt = 0 := rfl
              refine lv_if_ne (tgt := 91) hx hb dX2_readPound_86 (by decide) (fun c_ => absurd (by decide +kernel) c_) (fun _ => ?_)
              refine lv_iconst (v := 0) hx hb dX2_readPound_89 (by decide) ?_
              have l_l60 : (0 : Int32).toInt = 0 := rfl
              rw [← hQm]
              exact k_zret hC hr hlk hK hP hD hS (h52, v_rd_5, h53, h54, h55, h56, h57, y58, h59, g_M_poundLow, g_M_poundHigh) [3, 4, 5, 0, 1, 2] rfl (by decide +kernel) rfl ⟨(show 0 ≤ (0 : Int32).toInt ∧ (0 : Int32).toInt ≤ 1 ∧ 0 ≤ h55.toInt ∧ h55.toInt ≤ 1300 from by omega), hT_g_M_poundLow, hT_g_M_poundHigh⟩ (Nat.le_of_ble_eq_true rfl) (Nat.le_of_ble_eq_true rfl) dX2_readPound_90
            · clear hp
              have l_51 : (1 : Int32).toInt = 1 := rfl
              refine lv_if_ne (tgt := 91) hx hb dX2_readPound_86 (by decide) (fun _ => ?_) (fun c_ => absurd c_ (by decide +kernel))
              refine lv_aload_n hx hb dX2_readPound_91 rfl (lv_at hl 2 rfl) ?_
              refine k_get hC hK hP iX2 3 1 wf_X2_21 rfl (by decide) rfl rfl dX2_readPound_92 ?_
              refine k_getN hC hN hK hP iX7 0 3 wf_X2_139 rfl (by decide) rfl rfl dX2_readPound_95 ?_
              refine lv_iload_n hx hb dX2_readPound_98 rfl (lv_at hl 1 rfl) ?_
              refine lv_iload_n hx hb dX2_readPound_99 rfl (lv_at hl 0 rfl) ?_
              refine t_iast hC hK hP hD hS 1 rfl (by omega) (by omega) hT_g_M_poundLow (by omega) dX2_readPound_100 (fun f61 H locs hT_f61 hP hD hS => ?_)
              have hP : va_P G cl [(a2, .inr (7, [.int v_M_0, .int v_M_1, .int v_M_2, .ref a4, .ref a5, .int v_M_5, .ref a6, .ref a7, .ref a8, .ref a9, .ref a10, .ref a11, .ref a12, .ref a13, .ref a14])), (a4, .inl (cI, 2, .inl f61)), (a5, .inl (cI, 2, .inl g_M_poundHigh)), (a0, .inr (2, [.ref a1, .ref a2, .int h52, .int v_rd_3, .int v_rd_4, .int v_rd_5, .int h53, .int h54])), (a1, .inr (5, [.ref a3, .int v_tp_1, .int h55, .int h56, .int h57, .long y58, .int h59])), (a3, .inl (cB, 1300, .inl g_tp_bytes))] H := hP
              have hD : va_D A [(a2, .inr (7, [.int v_M_0, .int v_M_1, .int v_M_2, .ref a4, .ref a5, .int v_M_5, .ref a6, .ref a7, .ref a8, .ref a9, .ref a10, .ref a11, .ref a12, .ref a13, .ref a14])), (a4, .inl (cI, 2, .inl f61)), (a5, .inl (cI, 2, .inl g_M_poundHigh)), (a0, .inr (2, [.ref a1, .ref a2, .int h52, .int v_rd_3, .int v_rd_4, .int v_rd_5, .int h53, .int h54])), (a1, .inr (5, [.ref a3, .int v_tp_1, .int h55, .int h56, .int h57, .long y58, .int h59])), (a3, .inl (cB, 1300, .inl g_tp_bytes))] := hD
              refine lv_aload_n hx hb dX2_readPound_101 rfl (lv_at hl 2 rfl) ?_
              refine k_get hC hK hP iX2 3 1 wf_X2_21 rfl (by decide) rfl rfl dX2_readPound_102 ?_
              refine k_getN hC hN hK hP iX7 0 4 wf_X2_143 rfl (by decide) rfl rfl dX2_readPound_105 ?_
              refine lv_iload_n hx hb dX2_readPound_108 rfl (lv_at hl 1 rfl) ?_
              refine lv_aload_n hx hb dX2_readPound_109 rfl (lv_at hl 2 rfl) ?_
              refine k_get hC hK hP iX2 3 2 wf_X2_25 rfl (by decide) rfl rfl dX2_readPound_110 ?_
              refine t_iast hC hK hP hD hS 2 rfl (by omega) (by omega) hT_g_M_poundHigh (by omega) dX2_readPound_113 (fun f62 H locs hT_f62 hP hD hS => ?_)
              have hP : va_P G cl [(a2, .inr (7, [.int v_M_0, .int v_M_1, .int v_M_2, .ref a4, .ref a5, .int v_M_5, .ref a6, .ref a7, .ref a8, .ref a9, .ref a10, .ref a11, .ref a12, .ref a13, .ref a14])), (a4, .inl (cI, 2, .inl f61)), (a5, .inl (cI, 2, .inl f62)), (a0, .inr (2, [.ref a1, .ref a2, .int h52, .int v_rd_3, .int v_rd_4, .int v_rd_5, .int h53, .int h54])), (a1, .inr (5, [.ref a3, .int v_tp_1, .int h55, .int h56, .int h57, .long y58, .int h59])), (a3, .inl (cB, 1300, .inl g_tp_bytes))] H := hP
              have hD : va_D A [(a2, .inr (7, [.int v_M_0, .int v_M_1, .int v_M_2, .ref a4, .ref a5, .int v_M_5, .ref a6, .ref a7, .ref a8, .ref a9, .ref a10, .ref a11, .ref a12, .ref a13, .ref a14])), (a4, .inl (cI, 2, .inl f61)), (a5, .inl (cI, 2, .inl f62)), (a0, .inr (2, [.ref a1, .ref a2, .int h52, .int v_rd_3, .int v_rd_4, .int v_rd_5, .int h53, .int h54])), (a1, .inr (5, [.ref a3, .int v_tp_1, .int h55, .int h56, .int h57, .long y58, .int h59])), (a3, .inl (cB, 1300, .inl g_tp_bytes))] := hD
              refine lv_aload_n hx hb dX2_readPound_114 rfl (lv_at hl 2 rfl) ?_
              refine lv_dup hx hb dX2_readPound_115 rfl ?_
              refine k_get hC hK hP iX2 3 5 wf_X2_36 rfl (by decide) rfl rfl dX2_readPound_116 ?_
              refine lv_iconst (v := 1) hx hb dX2_readPound_119 (by decide) ?_
              refine lv_iload_n hx hb dX2_readPound_120 rfl (lv_at hl 1 rfl) ?_
              refine lv_ishl hx hb dX2_readPound_121 ?_
              refine t_i (fun q => 1 ≤ q.toInt ∧ q.toInt ≤ 2) (shl1_b (k := 1) (by decide) (by omega) (by omega)) (fun z63 tz63 => ?_)
              refine lv_ior hx hb dX2_readPound_122 ?_
              refine lv_topi (fun z64 _ => ?_)
              refine k_put hC hK hP hD hS iX2 tyX2_ok nmX2 3 5 wf_X2_36 rfl (by decide) rfl rfl rfl rfl (Nat.le_of_ble_eq_true rfl) dX2_readPound_123 (fun H locs hP hD hS => ?_)
              have hP : va_P G cl [(a2, .inr (7, [.int v_M_0, .int v_M_1, .int v_M_2, .ref a4, .ref a5, .int v_M_5, .ref a6, .ref a7, .ref a8, .ref a9, .ref a10, .ref a11, .ref a12, .ref a13, .ref a14])), (a4, .inl (cI, 2, .inl f61)), (a5, .inl (cI, 2, .inl f62)), (a0, .inr (2, [.ref a1, .ref a2, .int h52, .int v_rd_3, .int v_rd_4, .int z64, .int h53, .int h54])), (a1, .inr (5, [.ref a3, .int v_tp_1, .int h55, .int h56, .int h57, .long y58, .int h59])), (a3, .inl (cB, 1300, .inl g_tp_bytes))] H := hP
              have hD : va_D A [(a2, .inr (7, [.int v_M_0, .int v_M_1, .int v_M_2, .ref a4, .ref a5, .int v_M_5, .ref a6, .ref a7, .ref a8, .ref a9, .ref a10, .ref a11, .ref a12, .ref a13, .ref a14])), (a4, .inl (cI, 2, .inl f61)), (a5, .inl (cI, 2, .inl f62)), (a0, .inr (2, [.ref a1, .ref a2, .int h52, .int v_rd_3, .int v_rd_4, .int z64, .int h53, .int h54])), (a1, .inr (5, [.ref a3, .int v_tp_1, .int h55, .int h56, .int h57, .long y58, .int h59])), (a3, .inl (cB, 1300, .inl g_tp_bytes))] := hD
              refine lv_aload_n hx hb dX2_readPound_126 rfl (lv_at hl 2 rfl) ?_
              refine k_ci (wr := [(a2, .inr (7, [.int v_M_0, .int v_M_1, .int v_M_2, .ref a4, .ref a5, .int v_M_5, .ref a6, .ref a7, .ref a8, .ref a9, .ref a10, .ref a11, .ref a12, .ref a13, .ref a14])), (a4, .inl (cI, 2, .inl f61)), (a5, .inl (cI, 2, .inl f62))]) (k_rV hC hN hZ hS hA hK hP hD (c51_X2_takeSign l G cI cJ cB cZ a0 a1 a2 a3 h52 v_rd_3 v_rd_4 z64 h53 h54 v_tp_1 h55 h56 h57 y58 h59 g_tp_bytes hv_0 hv_1 hv_2 hv_3 hv_4 hv_5 (by omega) (by omega) hT_g_tp_bytes) [3, 4, 5] rfl (by decide +kernel) mi_X2_takeSign in_X2_takeSign se_X2_takeSign wm_X2_128 2 3 rfl rfl rfl hl.1 rfl rfl (Nat.le_of_ble_eq_true rfl) ⟨(Nat.le_of_ble_eq_true rfl), (Nat.le_of_ble_eq_true rfl)⟩ dX2_readPound_127 ⟨(Nat.le_of_ble_eq_true rfl), (Nat.le_of_ble_eq_true rfl)⟩) hP hD hS hA [3, 4, 5] [0, 1, 2] rfl rfl (by decide +kernel) (by decide +kernel) (fun r65 u65 H locs hp hP hD hS => ?_)
              obtain ⟨h66, h67, h68, h69, h70, y71, h72⟩ := u65
              have hp : (0 ≤ r65.toInt ∧ r65.toInt ≤ 1 ∧ 0 ≤ h68.toInt ∧ h68.toInt ≤ 1300) := hp
              have hP : va_P G cl [(a2, .inr (7, [.int v_M_0, .int v_M_1, .int v_M_2, .ref a4, .ref a5, .int v_M_5, .ref a6, .ref a7, .ref a8, .ref a9, .ref a10, .ref a11, .ref a12, .ref a13, .ref a14])), (a4, .inl (cI, 2, .inl f61)), (a5, .inl (cI, 2, .inl f62)), (a0, .inr (2, [.ref a1, .ref a2, .int h52, .int v_rd_3, .int v_rd_4, .int z64, .int h66, .int h67])), (a1, .inr (5, [.ref a3, .int v_tp_1, .int h68, .int h69, .int h70, .long y71, .int h72])), (a3, .inl (cB, 1300, .inl g_tp_bytes))] H := hP
              have hD : va_D A [(a2, .inr (7, [.int v_M_0, .int v_M_1, .int v_M_2, .ref a4, .ref a5, .int v_M_5, .ref a6, .ref a7, .ref a8, .ref a9, .ref a10, .ref a11, .ref a12, .ref a13, .ref a14])), (a4, .inl (cI, 2, .inl f61)), (a5, .inl (cI, 2, .inl f62)), (a0, .inr (2, [.ref a1, .ref a2, .int h52, .int v_rd_3, .int v_rd_4, .int z64, .int h66, .int h67])), (a1, .inr (5, [.ref a3, .int v_tp_1, .int h68, .int h69, .int h70, .long y71, .int h72])), (a3, .inl (cB, 1300, .inl g_tp_bytes))] := hD
              have hq65 := hp
              rw [← hQm]
              exact k_zret hC hr hlk hK hP hD hS (h52, z64, h66, h67, h68, h69, h70, y71, h72, f61, f62) [3, 4, 5, 0, 1, 2] rfl (by decide +kernel) (nar_bool (by omega) (by omega)) ⟨(show 0 ≤ r65.toInt ∧ r65.toInt ≤ 1 ∧ 0 ≤ h68.toInt ∧ h68.toInt ≤ 1300 from by omega), hT_f61, hT_f62⟩ (Nat.le_of_ble_eq_true rfl) (Nat.le_of_ble_eq_true rfl) dX2_readPound_130
  · have dc8 : r7.toInt ≠ 0 := fa_ne c8
    refine lv_aload_n hx hb dX2_readPound_14 rfl (lv_at hl 0 rfl) ?_
    refine lv_iconst (v := 3) hx hb dX2_readPound_15 (by decide) ?_
    have l_l74 : (3 : Int32).toInt = 3 := rfl
    refine k_ci (wr := [(a2, .inr (7, [.int v_M_0, .int v_M_1, .int v_M_2, .ref a4, .ref a5, .int v_M_5, .ref a6, .ref a7, .ref a8, .ref a9, .ref a10, .ref a11, .ref a12, .ref a13, .ref a14])), (a4, .inl (cI, 2, .inl g_M_poundLow)), (a5, .inl (cI, 2, .inl g_M_poundHigh)), (a3, .inl (cB, 1300, .inl g_tp_bytes))]) (k_rV hC hN hZ hS hA hK hP hD (c47_X2_refuse l G cI cJ cB cZ a0 a1 a2 a3 3 v_rd_2 v_rd_3 v_rd_4 v_rd_5 v_rd_6 v_rd_7 v_tp_1 h2 h3 h4 y5 h6 hv_0 hv_1 hv_2 hv_3 hv_4 hv_5 (by omega) (by omega)) [4, 5] rfl (by decide +kernel) mi_X2_refuse in_X2_refuse se_X2_refuse wm_X2_100 2 4 rfl rfl rfl hl.1 rfl rfl (Nat.le_of_ble_eq_true rfl) ⟨(Nat.le_of_ble_eq_true rfl), (Nat.le_of_ble_eq_true rfl)⟩ dX2_readPound_16 ⟨(Nat.le_of_ble_eq_true rfl), (Nat.le_of_ble_eq_true rfl)⟩) hP hD hS hA [4, 5] [0, 1, 2, 3] rfl rfl (by decide +kernel) (by decide +kernel) (fun r73 u73 H locs hp hP hD hS => ?_)
    obtain ⟨h75, h76⟩ := u73
    have hp : (r73 = 0 ∧ True) := hp
    obtain rfl : r73 = 0 := hp.1
    have hP : va_P G cl [(a2, .inr (7, [.int v_M_0, .int v_M_1, .int v_M_2, .ref a4, .ref a5, .int v_M_5, .ref a6, .ref a7, .ref a8, .ref a9, .ref a10, .ref a11, .ref a12, .ref a13, .ref a14])), (a4, .inl (cI, 2, .inl g_M_poundLow)), (a5, .inl (cI, 2, .inl g_M_poundHigh)), (a3, .inl (cB, 1300, .inl g_tp_bytes)), (a0, .inr (2, [.ref a1, .ref a2, .int v_rd_2, .int v_rd_3, .int v_rd_4, .int v_rd_5, .int h75, .int h76])), (a1, .inr (5, [.ref a3, .int v_tp_1, .int h2, .int h3, .int h4, .long y5, .int h6]))] H := hP
    have hD : va_D A [(a2, .inr (7, [.int v_M_0, .int v_M_1, .int v_M_2, .ref a4, .ref a5, .int v_M_5, .ref a6, .ref a7, .ref a8, .ref a9, .ref a10, .ref a11, .ref a12, .ref a13, .ref a14])), (a4, .inl (cI, 2, .inl g_M_poundLow)), (a5, .inl (cI, 2, .inl g_M_poundHigh)), (a3, .inl (cB, 1300, .inl g_tp_bytes)), (a0, .inr (2, [.ref a1, .ref a2, .int v_rd_2, .int v_rd_3, .int v_rd_4, .int v_rd_5, .int h75, .int h76])), (a1, .inr (5, [.ref a3, .int v_tp_1, .int h2, .int h3, .int h4, .long y5, .int h6]))] := hD
    have hq73 := hp
    have l_l77 : (0 : Int32).toInt = 0 := rfl
    rw [← hQm]
    exact k_zret hC hr hlk hK hP hD hS (v_rd_2, v_rd_5, h75, h76, h2, h3, h4, y5, h6, g_M_poundLow, g_M_poundHigh) [4, 5, 3, 0, 1, 2] rfl (by decide +kernel) rfl ⟨(show 0 ≤ (0 : Int32).toInt ∧ (0 : Int32).toInt ≤ 1 ∧ 0 ≤ h2.toInt ∧ h2.toInt ≤ 1300 from by omega), hT_g_M_poundLow, hT_g_M_poundHigh⟩ (Nat.le_of_ble_eq_true rfl) (Nat.le_of_ble_eq_true rfl) dX2_readPound_19
theorem dX5_isName_0 : decode cX5_isName 0 = .ok (.aload_n 0, 1) := by decide +kernel
theorem dX5_isName_1 : decode cX5_isName 1 = .ok (.getfield 25, 3) := by decide +kernel
theorem dX5_isName_4 : decode cX5_isName 4 = .ok (.iconst 1, 1) := by decide +kernel
theorem dX5_isName_5 : decode cX5_isName 5 = .ok (.if_icmp .eq 5, 3) := by decide +kernel
theorem dX5_isName_10 : decode cX5_isName 10 = .ok (.iconst 0, 1) := by decide +kernel
theorem dX5_isName_11 : decode cX5_isName 11 = .ok (.istore_n 1, 1) := by decide +kernel
theorem dX5_isName_12 : decode cX5_isName 12 = .ok (.iload_n 1, 1) := by decide +kernel
theorem dX5_isName_13 : decode cX5_isName 13 = .ok (.getstatic 54, 3) := by decide +kernel
set_option maxRecDepth 100000 in
theorem wf_X5_54 : Cond.fieldLink RX5 54 "StoneTrust$Tape" "OWN_WORDS" "[J" ∈ gw := gm (List.mem_of_getElem? (i := 671) (by decide +kernel)) rfl
theorem dX5_isName_16 : decode cX5_isName 16 = .ok (.arraylength, 1) := by decide +kernel
theorem dX5_isName_17 : decode cX5_isName 17 = .ok (.if_icmp .ge 24, 3) := by decide +kernel
theorem dX5_isName_41 : decode cX5_isName 41 = .ok (.iconst 1, 1) := by decide +kernel
theorem dX5_isName_42 : decode cX5_isName 42 = .ok (.ireturn, 1) := by decide +kernel
theorem dX5_isName_20 : decode cX5_isName 20 = .ok (.getstatic 54, 3) := by decide +kernel
theorem dX5_isName_23 : decode cX5_isName 23 = .ok (.iload_n 1, 1) := by decide +kernel
theorem dX5_isName_24 : decode cX5_isName 24 = .ok (.laload, 1) := by decide +kernel
theorem dX5_isName_25 : decode cX5_isName 25 = .ok (.aload_n 0, 1) := by decide +kernel
theorem dX5_isName_26 : decode cX5_isName 26 = .ok (.getfield 28, 3) := by decide +kernel
theorem dX5_isName_29 : decode cX5_isName 29 = .ok (.lcmp, 1) := by decide +kernel
theorem dX5_isName_30 : decode cX5_isName 30 = .ok (.ifCond .ne 5, 3) := by decide +kernel
theorem dX5_isName_35 : decode cX5_isName 35 = .ok (.iinc 1 1, 3) := by decide +kernel
theorem dX5_isName_38 : decode cX5_isName 38 = .ok (.goto (-26), 3) := by decide +kernel
theorem dX5_isName_33 : decode cX5_isName 33 = .ok (.iconst 0, 1) := by decide +kernel
theorem dX5_isName_34 : decode cX5_isName 34 = .ok (.ireturn, 1) := by decide +kernel
theorem dX5_isName_8 : decode cX5_isName 8 = .ok (.iconst 0, 1) := by decide +kernel
theorem dX5_isName_9 : decode cX5_isName 9 = .ok (.ireturn, 1) := by decide +kernel
set_option maxHeartbeats 4000000 in
set_option maxRecDepth 100000 in
theorem c60_X5_isName (l : Launch) (G : va_G) (cI cJ cB cZ : ClassId) (a0 a1 : Nat) (v_tp_1 : Int32) (v_tp_2 : Int32) (v_tp_3 : Int32) (v_tp_4 : Int32) (w_tp_5 : Int64) (v_tp_6 : Int32) (hv_0 : 0 ≤ v_tp_1.toInt) (hv_1 : v_tp_1.toInt ≤ 1300) (hv_2 : 0 ≤ v_tp_2.toInt) (hv_3 : v_tp_2.toInt ≤ 1300) : Con l G (TY cI cJ cB cZ) yX5_isName cX5_isName 2 (some .boolean) ({ frames := 0, cells := 0, slots := 0, locals := 0 } : Room) [.ref a0] [(a0, .inr (5, [.ref a1, .int v_tp_1, .int v_tp_2, .int v_tp_3, .int v_tp_4, .long w_tp_5, .int v_tp_6]))] (QI G (TY cI cJ cB cZ) (fun (r : Int32) (u : Unit) => (0 ≤ r.toInt ∧ r.toInt ≤ 1)) (fun u : Unit => [(a0, .inr (5, [.ref a1, .int v_tp_1, .int v_tp_2, .int v_tp_3, .int v_tp_4, .long w_tp_5, .int v_tp_6]))])) := by
  refine k_met (by decide) (Nat.le_of_ble_eq_true rfl) ?_
  intro p e s m below meth c A ls hC hr hlk hnm hN hZ hK hA hP hD hS hl
  have hl : lv_has ls 2 [(0, .ref a0)] := hl
  generalize hQm : MQ below _ _ s _ _ A = Qm
  generalize (List.toArray _ : Array Value) = args at hC hQm ⊢
  obtain ⟨hx, hb, hml, hown, hts⟩ := id hC
  obtain ⟨H, hH⟩ : ∃ q, q = s.heap := ⟨_, rfl⟩
  obtain ⟨locs, hlo⟩ : ∃ q : List Loc, q = [] := ⟨_, rfl⟩
  have hP : va_P G cl [(a0, .inr (5, [.ref a1, .int v_tp_1, .int v_tp_2, .int v_tp_3, .int v_tp_4, .long w_tp_5, .int v_tp_6]))] H := by rw [hH]; exact hP
  have hS : va_S A s.heap H locs := by rw [hH, hlo]; exact hS
  rw [← hlo]
  rw [← hH]
  refine lv_aload_n hx hb dX5_isName_0 rfl (lv_at hl 0 rfl) ?_
  refine k_get hC hK hP iX5 0 4 wf_X5_25 rfl (by decide) rfl rfl dX5_isName_1 ?_
  refine lv_iconst (v := 1) hx hb dX5_isName_4 (by decide) ?_
  refine lv_icmp_eq (tgt := 10) hx hb dX5_isName_5 (by decide) (fun c1 => ?_) (fun c1 => ?_)
  · have dc1 : v_tp_4.toInt = 1 := (fa_eq _ _).mp c1; have lbc1_0 := i_lo v_tp_4; have ubc1_0 := i_hi v_tp_4
    refine lv_iconst (v := 0) hx hb dX5_isName_10 (by decide) ?_
    refine lv_istore_n (lv' := [(1, .int 0), (0, .ref a0)]) hx hb dX5_isName_11 rfl hl (by decide) rfl (fun ls hl => ?_)
    have L_12 : ∀ (n : Nat) (x2 : Int32) (H : Heap) (locs : List Loc) (ls : Array Slot), (0 ≤ x2.toInt ∧ x2.toInt ≤ 20) → 20 - x2.toInt < (n : Int) → va_P G cl [(a0, .inr (5, [.ref a1, .int v_tp_1, .int v_tp_2, .int v_tp_3, .int v_tp_4, .long w_tp_5, .int v_tp_6]))] H → va_D A [(a0, .inr (5, [.ref a1, .int v_tp_1, .int v_tp_2, .int v_tp_3, .int v_tp_4, .long w_tp_5, .int v_tp_6]))] → va_S A s.heap H locs → lv_has ls 2 [(0, .ref a0), (1, .int x2)] → W p l e ({ frames := 0, cells := 0, slots := 0, locals := 0 } : Room) s m args below meth c H locs 0 0 Qm (F0 m 12 ls []) := by
      intro n
      induction n with
      | zero => intro x2 H locs ls hv hm; omega
      | succ n ih =>
        intro x2 H locs ls hv hm hP hD hS hl
        refine lv_iload_n hx hb dX5_isName_12 rfl (lv_at hl 1 rfl) ?_
        obtain ⟨tZ, fZ, hZ1, hZ2, hZ3⟩ := id hZ
        refine va_gets hx hb hZ1 hS hown (hts _ wf_X5_54) (fun _ h => h) dX5_isName_13 ?_
        refine t_slen hC hZ2 hS dX5_isName_16 ?_
        refine lv_icmp_ge (tgt := 41) hx hb dX5_isName_17 (by decide) (fun c3 => ?_) (fun c3 => ?_)
        · have dc3 : 19 ≤ x2.toInt := (fa_le _ _).mp c3
          refine lv_iconst (v := 1) hx hb dX5_isName_41 (by decide) ?_
          have l_l4 : (1 : Int32).toInt = 1 := rfl
          rw [← hQm]
          exact k_zret hC hr hlk hK hP hD hS () [0] rfl (by decide +kernel) rfl (show 0 ≤ (1 : Int32).toInt ∧ (1 : Int32).toInt ≤ 1 from by omega) (Nat.le_of_ble_eq_true rfl) (Nat.le_of_ble_eq_true rfl) dX5_isName_42
        · have dc3 : x2.toInt < 19 := fa_nle c3
          obtain ⟨tZ, fZ, hZ1, hZ2, hZ3⟩ := id hZ
          refine va_gets hx hb hZ1 hS hown (hts _ wf_X5_54) (fun _ h => h) dX5_isName_20 ?_
          refine lv_iload_n hx hb dX5_isName_23 rfl (lv_at hl 1 rfl) ?_
          refine t_sld hC hZ2 hZ3 hS (by omega) (by omega) dX5_isName_24 (fun y5 => ?_)
          refine lv_aload_n hx hb dX5_isName_25 rfl (lv_at hl 0 rfl) ?_
          refine k_get hC hK hP iX5 0 5 wf_X5_28 rfl (by decide) rfl rfl dX5_isName_26 ?_
          refine W.lcmp hx hb dX5_isName_29 ?_
          refine lv_topi (fun z6 _ => ?_)
          refine lv_if_ne (tgt := 35) hx hb dX5_isName_30 (by decide) (fun c7 => ?_) (fun c7 => ?_)
          · have dc7 : z6.toInt ≠ 0 := fa_ne c7; have lbc7_0 := i_lo z6; have ubc7_0 := i_hi z6
            obtain ⟨z8, ez8⟩ : ∃ q : Int32, q = x2 + Int32.ofInt 1 := ⟨_, rfl⟩
            have tz8 : z8.toInt = x2.toInt + 1 := by rw [ez8]; exact add_i (y := 1) (by have p_ := i_lo x2; show _ ≤ _ + (1 : Int); omega) (by have q_ := i_hi x2; show _ + (1 : Int) ≤ _; omega)
            refine lv_iinc (v := z8) (lv' := [(1, .int z8), (0, .ref a0)]) hx hb dX5_isName_35 hl (k := 1) rfl ez8.symm (by decide) rfl (fun ls hl => ?_)
            refine lv_goto (tgt := 12) hx hb dX5_isName_38 (by decide) ?_
            exact ih  z8 H locs ls (by omega) (by omega) (hP.subm [0] rfl) (hD.sub [0] (by decide +kernel) rfl) hS (lv_sub hl [1, 0] rfl)
          · have dc7 : z6.toInt = 0 := (fa_eq _ _).mp c7; have lbc7_0 := i_lo z6; have ubc7_0 := i_hi z6
            refine lv_iconst (v := 0) hx hb dX5_isName_33 (by decide) ?_
            have l_l9 : (0 : Int32).toInt = 0 := rfl
            rw [← hQm]
            exact k_zret hC hr hlk hK hP hD hS () [0] rfl (by decide +kernel) rfl (show 0 ≤ (0 : Int32).toInt ∧ (0 : Int32).toInt ≤ 1 from by omega) (Nat.le_of_ble_eq_true rfl) (Nat.le_of_ble_eq_true rfl) dX5_isName_34
    have l_l10 : (0 : Int32).toInt = 0 := rfl
    exact L_12 21 0 H locs ls (by omega) (by omega) (hP.subm [0] rfl) (hD.sub [0] (by decide +kernel) rfl) hS (lv_sub hl [1, 0] rfl)
  · have dc1 : v_tp_4.toInt ≠ 1 := fa_ne c1; have lbc1_0 := i_lo v_tp_4; have ubc1_0 := i_hi v_tp_4
    refine lv_iconst (v := 0) hx hb dX5_isName_8 (by decide) ?_
    have l_l11 : (0 : Int32).toInt = 0 := rfl
    rw [← hQm]
    exact k_zret hC hr hlk hK hP hD hS () [0] rfl (by decide +kernel) rfl (show 0 ≤ (0 : Int32).toInt ∧ (0 : Int32).toInt ≤ 1 from by omega) (Nat.le_of_ble_eq_true rfl) (Nat.le_of_ble_eq_true rfl) dX5_isName_9
set_option maxHeartbeats 4000000 in
set_option maxRecDepth 100000 in
theorem c61_X2_takeNumber (l : Launch) (G : va_G) (cI cJ cB cZ : ClassId) (a0 a1 a2 a3 : Nat) (v_rd_2 : Int32) (v_rd_3 : Int32) (v_rd_4 : Int32) (v_rd_5 : Int32) (v_rd_6 : Int32) (v_rd_7 : Int32) (v_tp_1 : Int32) (v_tp_2 : Int32) (v_tp_3 : Int32) (v_tp_4 : Int32) (w_tp_5 : Int64) (v_tp_6 : Int32) (g_tp_bytes : Nat → Int32) (hv_0 : 0 ≤ v_rd_3.toInt) (hv_1 : v_rd_3.toInt ≤ 1) (hv_2 : 0 ≤ v_rd_4.toInt) (hv_3 : v_rd_4.toInt ≤ 1) (hv_4 : 0 ≤ v_tp_1.toInt) (hv_5 : v_tp_1.toInt ≤ 1300) (hv_6 : 0 ≤ v_tp_2.toInt) (hv_7 : v_tp_2.toInt ≤ 1300) (hT_g_tp_bytes : TA (-128) 127 g_tp_bytes) : Con l G (TY cI cJ cB cZ) yX2_takeNumber cX2_takeNumber 3 (some .boolean) ({ frames := 3, cells := 0, slots := 0, locals := 61 } : Room) [.ref a0, .int 1, .int 9] [(a0, .inr (2, [.ref a1, .ref a2, .int v_rd_2, .int v_rd_3, .int v_rd_4, .int v_rd_5, .int v_rd_6, .int v_rd_7])), (a1, .inr (5, [.ref a3, .int v_tp_1, .int v_tp_2, .int v_tp_3, .int v_tp_4, .long w_tp_5, .int v_tp_6])), (a3, .inl (cB, 1300, .inl g_tp_bytes))] (QI G (TY cI cJ cB cZ) (fun (r : Int32) (u : Int32 × Int32 × Int32 × Int32 × Int32 × Int32 × Int64 × Int32) => (r = 0 ∧ (0 ≤ u.2.2.2.1.toInt ∧ u.2.2.2.1.toInt ≤ 1300)) ∨ (r = 1 ∧ (1 ≤ u.1.toInt ∧ u.1.toInt ≤ 9 ∧ 0 ≤ u.2.2.2.1.toInt ∧ u.2.2.2.1.toInt ≤ 1300 ∧ 0 ≤ u.2.2.2.2.1.toInt ∧ u.2.2.2.2.1.toInt ≤ 1300 ∧ 0 ≤ u.2.2.2.2.2.1.toInt ∧ u.2.2.2.2.2.1.toInt ≤ 4))) (fun u : Int32 × Int32 × Int32 × Int32 × Int32 × Int32 × Int64 × Int32 => [(a0, .inr (2, [.ref a1, .ref a2, .int u.1, .int v_rd_3, .int v_rd_4, .int v_rd_5, .int u.2.1, .int u.2.2.1])), (a1, .inr (5, [.ref a3, .int v_tp_1, .int u.2.2.2.1, .int u.2.2.2.2.1, .int u.2.2.2.2.2.1, .long u.2.2.2.2.2.2.1, .int u.2.2.2.2.2.2.2])), (a3, .inl (cB, 1300, .inl g_tp_bytes))])) := by
  refine k_met (by decide) (Nat.le_of_ble_eq_true rfl) ?_
  intro p e s m below meth c A ls hC hr hlk hnm hN hZ hK hA hP hD hS hl
  have hl : lv_has ls 3 [(0, .ref a0), (1, .int 1), (2, .int 9)] := hl
  generalize hQm : MQ below _ _ s _ _ A = Qm
  generalize (List.toArray _ : Array Value) = args at hC hQm ⊢
  obtain ⟨hx, hb, hml, hown, hts⟩ := id hC
  obtain ⟨H, hH⟩ : ∃ q, q = s.heap := ⟨_, rfl⟩
  obtain ⟨locs, hlo⟩ : ∃ q : List Loc, q = [] := ⟨_, rfl⟩
  have hP : va_P G cl [(a0, .inr (2, [.ref a1, .ref a2, .int v_rd_2, .int v_rd_3, .int v_rd_4, .int v_rd_5, .int v_rd_6, .int v_rd_7])), (a1, .inr (5, [.ref a3, .int v_tp_1, .int v_tp_2, .int v_tp_3, .int v_tp_4, .long w_tp_5, .int v_tp_6])), (a3, .inl (cB, 1300, .inl g_tp_bytes))] H := by rw [hH]; exact hP
  have hS : va_S A s.heap H locs := by rw [hH, hlo]; exact hS
  rw [← hlo]
  rw [← hH]
  refine lv_aload_n hx hb dX2_takeNumber_0 rfl (lv_at hl 0 rfl) ?_
  refine k_get hC hK hP iX2 0 0 wf_X2_12 rfl (by decide) rfl rfl dX2_takeNumber_1 ?_
  refine k_getN hC hN hK hP iX5 1 4 wf_X2_51 rfl (by decide) rfl rfl dX2_takeNumber_4 ?_
  refine lv_iconst (v := 2) hx hb dX2_takeNumber_7 (by decide) ?_
  refine lv_icmp_eq (tgt := 17) hx hb dX2_takeNumber_8 (by decide) (fun c1 => ?_) (fun c1 => ?_)
  · have dc1 : v_tp_4.toInt = 2 := (fa_eq _ _).mp c1; have lbc1_0 := i_lo v_tp_4; have ubc1_0 := i_hi v_tp_4
    refine lv_aload_n hx hb dX2_takeNumber_17 rfl (lv_at hl 0 rfl) ?_
    refine k_get hC hK hP iX2 0 0 wf_X2_12 rfl (by decide) rfl rfl dX2_takeNumber_18 ?_
    refine k_getN hC hN hK hP iX5 1 6 wf_X2_146 rfl (by decide) rfl rfl dX2_takeNumber_21 ?_
    refine lv_iload_n hx hb dX2_takeNumber_24 rfl (lv_at hl 1 rfl) ?_
    refine lv_icmp_lt (tgt := 39) hx hb dX2_takeNumber_25 (by decide) (fun c2 => ?_) (fun c2 => ?_)
    · have dc2 : v_tp_6.toInt < 1 := (fa_lt _ _).mp c2; have lbc2_0 := i_lo v_tp_6; have ubc2_0 := i_hi v_tp_6
      refine lv_aload_n hx hb dX2_takeNumber_39 rfl (lv_at hl 0 rfl) ?_
      refine lv_iconst (v := 4) hx hb dX2_takeNumber_40 (by decide) ?_
      have l_l4 : (4 : Int32).toInt = 4 := rfl
      refine k_ci (wr := [(a3, .inl (cB, 1300, .inl g_tp_bytes))]) (k_rV hC hN hZ hS hA hK hP hD (c47_X2_refuse l G cI cJ cB cZ a0 a1 a2 a3 4 v_rd_2 v_rd_3 v_rd_4 v_rd_5 v_rd_6 v_rd_7 v_tp_1 v_tp_2 v_tp_3 v_tp_4 w_tp_5 v_tp_6 hv_0 hv_1 hv_2 hv_3 hv_4 hv_5 hv_6 hv_7) [0, 1] rfl (by decide +kernel) mi_X2_refuse in_X2_refuse se_X2_refuse wm_X2_100 2 0 rfl rfl rfl hl.1 rfl rfl (Nat.le_of_ble_eq_true rfl) ⟨(Nat.le_of_ble_eq_true rfl), (Nat.le_of_ble_eq_true rfl)⟩ dX2_takeNumber_41 ⟨(Nat.le_of_ble_eq_true rfl), (Nat.le_of_ble_eq_true rfl)⟩) hP hD hS hA [0, 1] [2] rfl rfl (by decide +kernel) (by decide +kernel) (fun r3 u3 H locs hp hP hD hS => ?_)
      obtain ⟨h5, h6⟩ := u3
      have hp : (r3 = 0 ∧ True) := hp
      obtain rfl : r3 = 0 := hp.1
      have hP : va_P G cl [(a3, .inl (cB, 1300, .inl g_tp_bytes)), (a0, .inr (2, [.ref a1, .ref a2, .int v_rd_2, .int v_rd_3, .int v_rd_4, .int v_rd_5, .int h5, .int h6])), (a1, .inr (5, [.ref a3, .int v_tp_1, .int v_tp_2, .int v_tp_3, .int v_tp_4, .long w_tp_5, .int v_tp_6]))] H := hP
      have hD : va_D A [(a3, .inl (cB, 1300, .inl g_tp_bytes)), (a0, .inr (2, [.ref a1, .ref a2, .int v_rd_2, .int v_rd_3, .int v_rd_4, .int v_rd_5, .int h5, .int h6])), (a1, .inr (5, [.ref a3, .int v_tp_1, .int v_tp_2, .int v_tp_3, .int v_tp_4, .long w_tp_5, .int v_tp_6]))] := hD
      have hq3 := hp
      have l_l7 : (0 : Int32).toInt = 0 := rfl
      rw [← hQm]
      exact k_zret hC hr hlk hK hP hD hS (v_rd_2, h5, h6, v_tp_2, v_tp_3, v_tp_4, w_tp_5, v_tp_6) [1, 2, 0] rfl (by decide +kernel) rfl (Or.inl ⟨rfl, (show 0 ≤ v_tp_2.toInt ∧ v_tp_2.toInt ≤ 1300 from by omega)⟩) (Nat.le_of_ble_eq_true rfl) (Nat.le_of_ble_eq_true rfl) dX2_takeNumber_44
    · have dc2 : 1 ≤ v_tp_6.toInt := fa_nlt c2; have lbc2_0 := i_lo v_tp_6; have ubc2_0 := i_hi v_tp_6
      refine lv_aload_n hx hb dX2_takeNumber_28 rfl (lv_at hl 0 rfl) ?_
      refine k_get hC hK hP iX2 0 0 wf_X2_12 rfl (by decide) rfl rfl dX2_takeNumber_29 ?_
      refine k_getN hC hN hK hP iX5 1 6 wf_X2_146 rfl (by decide) rfl rfl dX2_takeNumber_32 ?_
      refine lv_iload_n hx hb dX2_takeNumber_35 rfl (lv_at hl 2 rfl) ?_
      refine lv_icmp_le (tgt := 45) hx hb dX2_takeNumber_36 (by decide) (fun c8 => ?_) (fun c8 => ?_)
      · have dc8 : v_tp_6.toInt ≤ 9 := (fa_le _ _).mp c8; have ubc8_0 := i_hi v_tp_6
        refine lv_aload_n hx hb dX2_takeNumber_45 rfl (lv_at hl 0 rfl) ?_
        refine lv_aload_n hx hb dX2_takeNumber_46 rfl (lv_at hl 0 rfl) ?_
        refine k_get hC hK hP iX2 0 0 wf_X2_12 rfl (by decide) rfl rfl dX2_takeNumber_47 ?_
        refine k_getN hC hN hK hP iX5 1 6 wf_X2_146 rfl (by decide) rfl rfl dX2_takeNumber_50 ?_
        refine k_put hC hK hP hD hS iX2 tyX2_ok nmX2 0 2 wf_X2_25 rfl (by decide) rfl rfl rfl rfl (Nat.le_of_ble_eq_true rfl) dX2_takeNumber_53 (fun H locs hP hD hS => ?_)
        have hP : va_P G cl [(a0, .inr (2, [.ref a1, .ref a2, .int v_tp_6, .int v_rd_3, .int v_rd_4, .int v_rd_5, .int v_rd_6, .int v_rd_7])), (a1, .inr (5, [.ref a3, .int v_tp_1, .int v_tp_2, .int v_tp_3, .int v_tp_4, .long w_tp_5, .int v_tp_6])), (a3, .inl (cB, 1300, .inl g_tp_bytes))] H := hP
        have hD : va_D A [(a0, .inr (2, [.ref a1, .ref a2, .int v_tp_6, .int v_rd_3, .int v_rd_4, .int v_rd_5, .int v_rd_6, .int v_rd_7])), (a1, .inr (5, [.ref a3, .int v_tp_1, .int v_tp_2, .int v_tp_3, .int v_tp_4, .long w_tp_5, .int v_tp_6])), (a3, .inl (cB, 1300, .inl g_tp_bytes))] := hD
        refine lv_aload_n hx hb dX2_takeNumber_56 rfl (lv_at hl 0 rfl) ?_
        refine k_get hC hK hP iX2 0 0 wf_X2_12 rfl (by decide) rfl rfl dX2_takeNumber_57 ?_
        refine k_cv (wr := [(a0, .inr (2, [.ref a1, .ref a2, .int v_tp_6, .int v_rd_3, .int v_rd_4, .int v_rd_5, .int v_rd_6, .int v_rd_7]))]) (k_rV hC hN hZ hS hA hK hP hD (c20_X5_advance l G cI cJ cB cZ a1 a3 v_tp_1 v_tp_2 v_tp_3 v_tp_4 w_tp_5 v_tp_6 g_tp_bytes hv_4 hv_5 hv_6 hv_7 hT_g_tp_bytes) [1, 2] rfl (by decide +kernel) mi_X5_advance in_X5_advance se_X5_advance wm_X2_104 5 1 rfl rfl rfl hl.1 rfl rfl (Nat.le_of_ble_eq_true rfl) ⟨(Nat.le_of_ble_eq_true rfl), (Nat.le_of_ble_eq_true rfl)⟩ dX2_takeNumber_60 ⟨(Nat.le_of_ble_eq_true rfl), (Nat.le_of_ble_eq_true rfl)⟩) hP hD hS hA [1, 2] [0] rfl rfl (by decide +kernel) (by decide +kernel) (fun u9 H locs hp hP hD hS => ?_)
        obtain ⟨h10, h11, h12, y13, h14⟩ := u9
        have hp : (0 ≤ h10.toInt ∧ h10.toInt ≤ 1300 ∧ 0 ≤ h11.toInt ∧ h11.toInt ≤ 1300 ∧ 0 ≤ h12.toInt ∧ h12.toInt ≤ 4) := hp
        have hP : va_P G cl [(a0, .inr (2, [.ref a1, .ref a2, .int v_tp_6, .int v_rd_3, .int v_rd_4, .int v_rd_5, .int v_rd_6, .int v_rd_7])), (a1, .inr (5, [.ref a3, .int v_tp_1, .int h10, .int h11, .int h12, .long y13, .int h14])), (a3, .inl (cB, 1300, .inl g_tp_bytes))] H := hP
        have hD : va_D A [(a0, .inr (2, [.ref a1, .ref a2, .int v_tp_6, .int v_rd_3, .int v_rd_4, .int v_rd_5, .int v_rd_6, .int v_rd_7])), (a1, .inr (5, [.ref a3, .int v_tp_1, .int h10, .int h11, .int h12, .long y13, .int h14])), (a3, .inl (cB, 1300, .inl g_tp_bytes))] := hD
        have hq9 := hp
        refine lv_iconst (v := 1) hx hb dX2_takeNumber_63 (by decide) ?_
        have l_l15 : (1 : Int32).toInt = 1 := rfl
        rw [← hQm]
        exact k_zret hC hr hlk hK hP hD hS (v_tp_6, v_rd_6, v_rd_7, h10, h11, h12, y13, h14) [0, 1, 2] rfl (by decide +kernel) rfl (Or.inr ⟨rfl, (show 1 ≤ v_tp_6.toInt ∧ v_tp_6.toInt ≤ 9 ∧ 0 ≤ h10.toInt ∧ h10.toInt ≤ 1300 ∧ 0 ≤ h11.toInt ∧ h11.toInt ≤ 1300 ∧ 0 ≤ h12.toInt ∧ h12.toInt ≤ 4 from by omega)⟩) (Nat.le_of_ble_eq_true rfl) (Nat.le_of_ble_eq_true rfl) dX2_takeNumber_64
      · have dc8 : 9 < v_tp_6.toInt := fa_nle c8; have ubc8_0 := i_hi v_tp_6
        refine lv_aload_n hx hb dX2_takeNumber_39 rfl (lv_at hl 0 rfl) ?_
        refine lv_iconst (v := 4) hx hb dX2_takeNumber_40 (by decide) ?_
        have l_l17 : (4 : Int32).toInt = 4 := rfl
        refine k_ci (wr := [(a3, .inl (cB, 1300, .inl g_tp_bytes))]) (k_rV hC hN hZ hS hA hK hP hD (c47_X2_refuse l G cI cJ cB cZ a0 a1 a2 a3 4 v_rd_2 v_rd_3 v_rd_4 v_rd_5 v_rd_6 v_rd_7 v_tp_1 v_tp_2 v_tp_3 v_tp_4 w_tp_5 v_tp_6 hv_0 hv_1 hv_2 hv_3 hv_4 hv_5 hv_6 hv_7) [0, 1] rfl (by decide +kernel) mi_X2_refuse in_X2_refuse se_X2_refuse wm_X2_100 2 0 rfl rfl rfl hl.1 rfl rfl (Nat.le_of_ble_eq_true rfl) ⟨(Nat.le_of_ble_eq_true rfl), (Nat.le_of_ble_eq_true rfl)⟩ dX2_takeNumber_41 ⟨(Nat.le_of_ble_eq_true rfl), (Nat.le_of_ble_eq_true rfl)⟩) hP hD hS hA [0, 1] [2] rfl rfl (by decide +kernel) (by decide +kernel) (fun r16 u16 H locs hp hP hD hS => ?_)
        obtain ⟨h18, h19⟩ := u16
        have hp : (r16 = 0 ∧ True) := hp
        obtain rfl : r16 = 0 := hp.1
        have hP : va_P G cl [(a3, .inl (cB, 1300, .inl g_tp_bytes)), (a0, .inr (2, [.ref a1, .ref a2, .int v_rd_2, .int v_rd_3, .int v_rd_4, .int v_rd_5, .int h18, .int h19])), (a1, .inr (5, [.ref a3, .int v_tp_1, .int v_tp_2, .int v_tp_3, .int v_tp_4, .long w_tp_5, .int v_tp_6]))] H := hP
        have hD : va_D A [(a3, .inl (cB, 1300, .inl g_tp_bytes)), (a0, .inr (2, [.ref a1, .ref a2, .int v_rd_2, .int v_rd_3, .int v_rd_4, .int v_rd_5, .int h18, .int h19])), (a1, .inr (5, [.ref a3, .int v_tp_1, .int v_tp_2, .int v_tp_3, .int v_tp_4, .long w_tp_5, .int v_tp_6]))] := hD
        have hq16 := hp
        have l_l20 : (0 : Int32).toInt = 0 := rfl
        rw [← hQm]
        exact k_zret hC hr hlk hK hP hD hS (v_rd_2, h18, h19, v_tp_2, v_tp_3, v_tp_4, w_tp_5, v_tp_6) [1, 2, 0] rfl (by decide +kernel) rfl (Or.inl ⟨rfl, (show 0 ≤ v_tp_2.toInt ∧ v_tp_2.toInt ≤ 1300 from by omega)⟩) (Nat.le_of_ble_eq_true rfl) (Nat.le_of_ble_eq_true rfl) dX2_takeNumber_44
  · have dc1 : v_tp_4.toInt ≠ 2 := fa_ne c1; have lbc1_0 := i_lo v_tp_4; have ubc1_0 := i_hi v_tp_4
    refine lv_aload_n hx hb dX2_takeNumber_11 rfl (lv_at hl 0 rfl) ?_
    refine lv_iconst (v := 2) hx hb dX2_takeNumber_12 (by decide) ?_
    have l_l22 : (2 : Int32).toInt = 2 := rfl
    refine k_ci (wr := [(a3, .inl (cB, 1300, .inl g_tp_bytes))]) (k_rV hC hN hZ hS hA hK hP hD (c47_X2_refuse l G cI cJ cB cZ a0 a1 a2 a3 2 v_rd_2 v_rd_3 v_rd_4 v_rd_5 v_rd_6 v_rd_7 v_tp_1 v_tp_2 v_tp_3 v_tp_4 w_tp_5 v_tp_6 hv_0 hv_1 hv_2 hv_3 hv_4 hv_5 hv_6 hv_7) [0, 1] rfl (by decide +kernel) mi_X2_refuse in_X2_refuse se_X2_refuse wm_X2_100 2 0 rfl rfl rfl hl.1 rfl rfl (Nat.le_of_ble_eq_true rfl) ⟨(Nat.le_of_ble_eq_true rfl), (Nat.le_of_ble_eq_true rfl)⟩ dX2_takeNumber_13 ⟨(Nat.le_of_ble_eq_true rfl), (Nat.le_of_ble_eq_true rfl)⟩) hP hD hS hA [0, 1] [2] rfl rfl (by decide +kernel) (by decide +kernel) (fun r21 u21 H locs hp hP hD hS => ?_)
    obtain ⟨h23, h24⟩ := u21
    have hp : (r21 = 0 ∧ True) := hp
    obtain rfl : r21 = 0 := hp.1
    have hP : va_P G cl [(a3, .inl (cB, 1300, .inl g_tp_bytes)), (a0, .inr (2, [.ref a1, .ref a2, .int v_rd_2, .int v_rd_3, .int v_rd_4, .int v_rd_5, .int h23, .int h24])), (a1, .inr (5, [.ref a3, .int v_tp_1, .int v_tp_2, .int v_tp_3, .int v_tp_4, .long w_tp_5, .int v_tp_6]))] H := hP
    have hD : va_D A [(a3, .inl (cB, 1300, .inl g_tp_bytes)), (a0, .inr (2, [.ref a1, .ref a2, .int v_rd_2, .int v_rd_3, .int v_rd_4, .int v_rd_5, .int h23, .int h24])), (a1, .inr (5, [.ref a3, .int v_tp_1, .int v_tp_2, .int v_tp_3, .int v_tp_4, .long w_tp_5, .int v_tp_6]))] := hD
    have hq21 := hp
    have l_l25 : (0 : Int32).toInt = 0 := rfl
    rw [← hQm]
    exact k_zret hC hr hlk hK hP hD hS (v_rd_2, h23, h24, v_tp_2, v_tp_3, v_tp_4, w_tp_5, v_tp_6) [1, 2, 0] rfl (by decide +kernel) rfl (Or.inl ⟨rfl, (show 0 ≤ v_tp_2.toInt ∧ v_tp_2.toInt ≤ 1300 from by omega)⟩) (Nat.le_of_ble_eq_true rfl) (Nat.le_of_ble_eq_true rfl) dX2_takeNumber_16
set_option maxHeartbeats 4000000 in
set_option maxRecDepth 100000 in
theorem c62_X2_takeNumber (l : Launch) (G : va_G) (cI cJ cB cZ : ClassId) (a0 a1 a2 a3 : Nat) (v_rd_2 : Int32) (v_rd_3 : Int32) (v_rd_4 : Int32) (v_rd_5 : Int32) (v_rd_6 : Int32) (v_rd_7 : Int32) (v_tp_1 : Int32) (v_tp_2 : Int32) (v_tp_3 : Int32) (v_tp_4 : Int32) (w_tp_5 : Int64) (v_tp_6 : Int32) (g_tp_bytes : Nat → Int32) (hv_0 : 0 ≤ v_rd_3.toInt) (hv_1 : v_rd_3.toInt ≤ 1) (hv_2 : 0 ≤ v_rd_4.toInt) (hv_3 : v_rd_4.toInt ≤ 1) (hv_4 : 0 ≤ v_tp_1.toInt) (hv_5 : v_tp_1.toInt ≤ 1300) (hv_6 : 0 ≤ v_tp_2.toInt) (hv_7 : v_tp_2.toInt ≤ 1300) (hT_g_tp_bytes : TA (-128) 127 g_tp_bytes) : Con l G (TY cI cJ cB cZ) yX2_takeNumber cX2_takeNumber 3 (some .boolean) ({ frames := 3, cells := 0, slots := 0, locals := 61 } : Room) [.ref a0, .int 0, .int 4] [(a0, .inr (2, [.ref a1, .ref a2, .int v_rd_2, .int v_rd_3, .int v_rd_4, .int v_rd_5, .int v_rd_6, .int v_rd_7])), (a1, .inr (5, [.ref a3, .int v_tp_1, .int v_tp_2, .int v_tp_3, .int v_tp_4, .long w_tp_5, .int v_tp_6])), (a3, .inl (cB, 1300, .inl g_tp_bytes))] (QI G (TY cI cJ cB cZ) (fun (r : Int32) (u : Int32 × Int32 × Int32 × Int32 × Int32 × Int32 × Int64 × Int32) => (r = 0 ∧ (0 ≤ u.2.2.2.1.toInt ∧ u.2.2.2.1.toInt ≤ 1300)) ∨ (r = 1 ∧ (0 ≤ u.1.toInt ∧ u.1.toInt ≤ 4 ∧ 0 ≤ u.2.2.2.1.toInt ∧ u.2.2.2.1.toInt ≤ 1300 ∧ 0 ≤ u.2.2.2.2.1.toInt ∧ u.2.2.2.2.1.toInt ≤ 1300 ∧ 0 ≤ u.2.2.2.2.2.1.toInt ∧ u.2.2.2.2.2.1.toInt ≤ 4))) (fun u : Int32 × Int32 × Int32 × Int32 × Int32 × Int32 × Int64 × Int32 => [(a0, .inr (2, [.ref a1, .ref a2, .int u.1, .int v_rd_3, .int v_rd_4, .int v_rd_5, .int u.2.1, .int u.2.2.1])), (a1, .inr (5, [.ref a3, .int v_tp_1, .int u.2.2.2.1, .int u.2.2.2.2.1, .int u.2.2.2.2.2.1, .long u.2.2.2.2.2.2.1, .int u.2.2.2.2.2.2.2])), (a3, .inl (cB, 1300, .inl g_tp_bytes))])) := by
  refine k_met (by decide) (Nat.le_of_ble_eq_true rfl) ?_
  intro p e s m below meth c A ls hC hr hlk hnm hN hZ hK hA hP hD hS hl
  have hl : lv_has ls 3 [(0, .ref a0), (1, .int 0), (2, .int 4)] := hl
  generalize hQm : MQ below _ _ s _ _ A = Qm
  generalize (List.toArray _ : Array Value) = args at hC hQm ⊢
  obtain ⟨hx, hb, hml, hown, hts⟩ := id hC
  obtain ⟨H, hH⟩ : ∃ q, q = s.heap := ⟨_, rfl⟩
  obtain ⟨locs, hlo⟩ : ∃ q : List Loc, q = [] := ⟨_, rfl⟩
  have hP : va_P G cl [(a0, .inr (2, [.ref a1, .ref a2, .int v_rd_2, .int v_rd_3, .int v_rd_4, .int v_rd_5, .int v_rd_6, .int v_rd_7])), (a1, .inr (5, [.ref a3, .int v_tp_1, .int v_tp_2, .int v_tp_3, .int v_tp_4, .long w_tp_5, .int v_tp_6])), (a3, .inl (cB, 1300, .inl g_tp_bytes))] H := by rw [hH]; exact hP
  have hS : va_S A s.heap H locs := by rw [hH, hlo]; exact hS
  rw [← hlo]
  rw [← hH]
  refine lv_aload_n hx hb dX2_takeNumber_0 rfl (lv_at hl 0 rfl) ?_
  refine k_get hC hK hP iX2 0 0 wf_X2_12 rfl (by decide) rfl rfl dX2_takeNumber_1 ?_
  refine k_getN hC hN hK hP iX5 1 4 wf_X2_51 rfl (by decide) rfl rfl dX2_takeNumber_4 ?_
  refine lv_iconst (v := 2) hx hb dX2_takeNumber_7 (by decide) ?_
  refine lv_icmp_eq (tgt := 17) hx hb dX2_takeNumber_8 (by decide) (fun c1 => ?_) (fun c1 => ?_)
  · have dc1 : v_tp_4.toInt = 2 := (fa_eq _ _).mp c1; have lbc1_0 := i_lo v_tp_4; have ubc1_0 := i_hi v_tp_4
    refine lv_aload_n hx hb dX2_takeNumber_17 rfl (lv_at hl 0 rfl) ?_
    refine k_get hC hK hP iX2 0 0 wf_X2_12 rfl (by decide) rfl rfl dX2_takeNumber_18 ?_
    refine k_getN hC hN hK hP iX5 1 6 wf_X2_146 rfl (by decide) rfl rfl dX2_takeNumber_21 ?_
    refine lv_iload_n hx hb dX2_takeNumber_24 rfl (lv_at hl 1 rfl) ?_
    refine lv_icmp_lt (tgt := 39) hx hb dX2_takeNumber_25 (by decide) (fun c2 => ?_) (fun c2 => ?_)
    · have dc2 : v_tp_6.toInt < 0 := (fa_lt _ _).mp c2; have lbc2_0 := i_lo v_tp_6; have ubc2_0 := i_hi v_tp_6
      refine lv_aload_n hx hb dX2_takeNumber_39 rfl (lv_at hl 0 rfl) ?_
      refine lv_iconst (v := 4) hx hb dX2_takeNumber_40 (by decide) ?_
      have l_l4 : (4 : Int32).toInt = 4 := rfl
      refine k_ci (wr := [(a3, .inl (cB, 1300, .inl g_tp_bytes))]) (k_rV hC hN hZ hS hA hK hP hD (c47_X2_refuse l G cI cJ cB cZ a0 a1 a2 a3 4 v_rd_2 v_rd_3 v_rd_4 v_rd_5 v_rd_6 v_rd_7 v_tp_1 v_tp_2 v_tp_3 v_tp_4 w_tp_5 v_tp_6 hv_0 hv_1 hv_2 hv_3 hv_4 hv_5 hv_6 hv_7) [0, 1] rfl (by decide +kernel) mi_X2_refuse in_X2_refuse se_X2_refuse wm_X2_100 2 0 rfl rfl rfl hl.1 rfl rfl (Nat.le_of_ble_eq_true rfl) ⟨(Nat.le_of_ble_eq_true rfl), (Nat.le_of_ble_eq_true rfl)⟩ dX2_takeNumber_41 ⟨(Nat.le_of_ble_eq_true rfl), (Nat.le_of_ble_eq_true rfl)⟩) hP hD hS hA [0, 1] [2] rfl rfl (by decide +kernel) (by decide +kernel) (fun r3 u3 H locs hp hP hD hS => ?_)
      obtain ⟨h5, h6⟩ := u3
      have hp : (r3 = 0 ∧ True) := hp
      obtain rfl : r3 = 0 := hp.1
      have hP : va_P G cl [(a3, .inl (cB, 1300, .inl g_tp_bytes)), (a0, .inr (2, [.ref a1, .ref a2, .int v_rd_2, .int v_rd_3, .int v_rd_4, .int v_rd_5, .int h5, .int h6])), (a1, .inr (5, [.ref a3, .int v_tp_1, .int v_tp_2, .int v_tp_3, .int v_tp_4, .long w_tp_5, .int v_tp_6]))] H := hP
      have hD : va_D A [(a3, .inl (cB, 1300, .inl g_tp_bytes)), (a0, .inr (2, [.ref a1, .ref a2, .int v_rd_2, .int v_rd_3, .int v_rd_4, .int v_rd_5, .int h5, .int h6])), (a1, .inr (5, [.ref a3, .int v_tp_1, .int v_tp_2, .int v_tp_3, .int v_tp_4, .long w_tp_5, .int v_tp_6]))] := hD
      have hq3 := hp
      have l_l7 : (0 : Int32).toInt = 0 := rfl
      rw [← hQm]
      exact k_zret hC hr hlk hK hP hD hS (v_rd_2, h5, h6, v_tp_2, v_tp_3, v_tp_4, w_tp_5, v_tp_6) [1, 2, 0] rfl (by decide +kernel) rfl (Or.inl ⟨rfl, (show 0 ≤ v_tp_2.toInt ∧ v_tp_2.toInt ≤ 1300 from by omega)⟩) (Nat.le_of_ble_eq_true rfl) (Nat.le_of_ble_eq_true rfl) dX2_takeNumber_44
    · have dc2 : 0 ≤ v_tp_6.toInt := fa_nlt c2; have lbc2_0 := i_lo v_tp_6; have ubc2_0 := i_hi v_tp_6
      refine lv_aload_n hx hb dX2_takeNumber_28 rfl (lv_at hl 0 rfl) ?_
      refine k_get hC hK hP iX2 0 0 wf_X2_12 rfl (by decide) rfl rfl dX2_takeNumber_29 ?_
      refine k_getN hC hN hK hP iX5 1 6 wf_X2_146 rfl (by decide) rfl rfl dX2_takeNumber_32 ?_
      refine lv_iload_n hx hb dX2_takeNumber_35 rfl (lv_at hl 2 rfl) ?_
      refine lv_icmp_le (tgt := 45) hx hb dX2_takeNumber_36 (by decide) (fun c8 => ?_) (fun c8 => ?_)
      · have dc8 : v_tp_6.toInt ≤ 4 := (fa_le _ _).mp c8; have ubc8_0 := i_hi v_tp_6
        refine lv_aload_n hx hb dX2_takeNumber_45 rfl (lv_at hl 0 rfl) ?_
        refine lv_aload_n hx hb dX2_takeNumber_46 rfl (lv_at hl 0 rfl) ?_
        refine k_get hC hK hP iX2 0 0 wf_X2_12 rfl (by decide) rfl rfl dX2_takeNumber_47 ?_
        refine k_getN hC hN hK hP iX5 1 6 wf_X2_146 rfl (by decide) rfl rfl dX2_takeNumber_50 ?_
        refine k_put hC hK hP hD hS iX2 tyX2_ok nmX2 0 2 wf_X2_25 rfl (by decide) rfl rfl rfl rfl (Nat.le_of_ble_eq_true rfl) dX2_takeNumber_53 (fun H locs hP hD hS => ?_)
        have hP : va_P G cl [(a0, .inr (2, [.ref a1, .ref a2, .int v_tp_6, .int v_rd_3, .int v_rd_4, .int v_rd_5, .int v_rd_6, .int v_rd_7])), (a1, .inr (5, [.ref a3, .int v_tp_1, .int v_tp_2, .int v_tp_3, .int v_tp_4, .long w_tp_5, .int v_tp_6])), (a3, .inl (cB, 1300, .inl g_tp_bytes))] H := hP
        have hD : va_D A [(a0, .inr (2, [.ref a1, .ref a2, .int v_tp_6, .int v_rd_3, .int v_rd_4, .int v_rd_5, .int v_rd_6, .int v_rd_7])), (a1, .inr (5, [.ref a3, .int v_tp_1, .int v_tp_2, .int v_tp_3, .int v_tp_4, .long w_tp_5, .int v_tp_6])), (a3, .inl (cB, 1300, .inl g_tp_bytes))] := hD
        refine lv_aload_n hx hb dX2_takeNumber_56 rfl (lv_at hl 0 rfl) ?_
        refine k_get hC hK hP iX2 0 0 wf_X2_12 rfl (by decide) rfl rfl dX2_takeNumber_57 ?_
        refine k_cv (wr := [(a0, .inr (2, [.ref a1, .ref a2, .int v_tp_6, .int v_rd_3, .int v_rd_4, .int v_rd_5, .int v_rd_6, .int v_rd_7]))]) (k_rV hC hN hZ hS hA hK hP hD (c20_X5_advance l G cI cJ cB cZ a1 a3 v_tp_1 v_tp_2 v_tp_3 v_tp_4 w_tp_5 v_tp_6 g_tp_bytes hv_4 hv_5 hv_6 hv_7 hT_g_tp_bytes) [1, 2] rfl (by decide +kernel) mi_X5_advance in_X5_advance se_X5_advance wm_X2_104 5 1 rfl rfl rfl hl.1 rfl rfl (Nat.le_of_ble_eq_true rfl) ⟨(Nat.le_of_ble_eq_true rfl), (Nat.le_of_ble_eq_true rfl)⟩ dX2_takeNumber_60 ⟨(Nat.le_of_ble_eq_true rfl), (Nat.le_of_ble_eq_true rfl)⟩) hP hD hS hA [1, 2] [0] rfl rfl (by decide +kernel) (by decide +kernel) (fun u9 H locs hp hP hD hS => ?_)
        obtain ⟨h10, h11, h12, y13, h14⟩ := u9
        have hp : (0 ≤ h10.toInt ∧ h10.toInt ≤ 1300 ∧ 0 ≤ h11.toInt ∧ h11.toInt ≤ 1300 ∧ 0 ≤ h12.toInt ∧ h12.toInt ≤ 4) := hp
        have hP : va_P G cl [(a0, .inr (2, [.ref a1, .ref a2, .int v_tp_6, .int v_rd_3, .int v_rd_4, .int v_rd_5, .int v_rd_6, .int v_rd_7])), (a1, .inr (5, [.ref a3, .int v_tp_1, .int h10, .int h11, .int h12, .long y13, .int h14])), (a3, .inl (cB, 1300, .inl g_tp_bytes))] H := hP
        have hD : va_D A [(a0, .inr (2, [.ref a1, .ref a2, .int v_tp_6, .int v_rd_3, .int v_rd_4, .int v_rd_5, .int v_rd_6, .int v_rd_7])), (a1, .inr (5, [.ref a3, .int v_tp_1, .int h10, .int h11, .int h12, .long y13, .int h14])), (a3, .inl (cB, 1300, .inl g_tp_bytes))] := hD
        have hq9 := hp
        refine lv_iconst (v := 1) hx hb dX2_takeNumber_63 (by decide) ?_
        have l_l15 : (1 : Int32).toInt = 1 := rfl
        rw [← hQm]
        exact k_zret hC hr hlk hK hP hD hS (v_tp_6, v_rd_6, v_rd_7, h10, h11, h12, y13, h14) [0, 1, 2] rfl (by decide +kernel) rfl (Or.inr ⟨rfl, (show 0 ≤ v_tp_6.toInt ∧ v_tp_6.toInt ≤ 4 ∧ 0 ≤ h10.toInt ∧ h10.toInt ≤ 1300 ∧ 0 ≤ h11.toInt ∧ h11.toInt ≤ 1300 ∧ 0 ≤ h12.toInt ∧ h12.toInt ≤ 4 from by omega)⟩) (Nat.le_of_ble_eq_true rfl) (Nat.le_of_ble_eq_true rfl) dX2_takeNumber_64
      · have dc8 : 4 < v_tp_6.toInt := fa_nle c8; have ubc8_0 := i_hi v_tp_6
        refine lv_aload_n hx hb dX2_takeNumber_39 rfl (lv_at hl 0 rfl) ?_
        refine lv_iconst (v := 4) hx hb dX2_takeNumber_40 (by decide) ?_
        have l_l17 : (4 : Int32).toInt = 4 := rfl
        refine k_ci (wr := [(a3, .inl (cB, 1300, .inl g_tp_bytes))]) (k_rV hC hN hZ hS hA hK hP hD (c47_X2_refuse l G cI cJ cB cZ a0 a1 a2 a3 4 v_rd_2 v_rd_3 v_rd_4 v_rd_5 v_rd_6 v_rd_7 v_tp_1 v_tp_2 v_tp_3 v_tp_4 w_tp_5 v_tp_6 hv_0 hv_1 hv_2 hv_3 hv_4 hv_5 hv_6 hv_7) [0, 1] rfl (by decide +kernel) mi_X2_refuse in_X2_refuse se_X2_refuse wm_X2_100 2 0 rfl rfl rfl hl.1 rfl rfl (Nat.le_of_ble_eq_true rfl) ⟨(Nat.le_of_ble_eq_true rfl), (Nat.le_of_ble_eq_true rfl)⟩ dX2_takeNumber_41 ⟨(Nat.le_of_ble_eq_true rfl), (Nat.le_of_ble_eq_true rfl)⟩) hP hD hS hA [0, 1] [2] rfl rfl (by decide +kernel) (by decide +kernel) (fun r16 u16 H locs hp hP hD hS => ?_)
        obtain ⟨h18, h19⟩ := u16
        have hp : (r16 = 0 ∧ True) := hp
        obtain rfl : r16 = 0 := hp.1
        have hP : va_P G cl [(a3, .inl (cB, 1300, .inl g_tp_bytes)), (a0, .inr (2, [.ref a1, .ref a2, .int v_rd_2, .int v_rd_3, .int v_rd_4, .int v_rd_5, .int h18, .int h19])), (a1, .inr (5, [.ref a3, .int v_tp_1, .int v_tp_2, .int v_tp_3, .int v_tp_4, .long w_tp_5, .int v_tp_6]))] H := hP
        have hD : va_D A [(a3, .inl (cB, 1300, .inl g_tp_bytes)), (a0, .inr (2, [.ref a1, .ref a2, .int v_rd_2, .int v_rd_3, .int v_rd_4, .int v_rd_5, .int h18, .int h19])), (a1, .inr (5, [.ref a3, .int v_tp_1, .int v_tp_2, .int v_tp_3, .int v_tp_4, .long w_tp_5, .int v_tp_6]))] := hD
        have hq16 := hp
        have l_l20 : (0 : Int32).toInt = 0 := rfl
        rw [← hQm]
        exact k_zret hC hr hlk hK hP hD hS (v_rd_2, h18, h19, v_tp_2, v_tp_3, v_tp_4, w_tp_5, v_tp_6) [1, 2, 0] rfl (by decide +kernel) rfl (Or.inl ⟨rfl, (show 0 ≤ v_tp_2.toInt ∧ v_tp_2.toInt ≤ 1300 from by omega)⟩) (Nat.le_of_ble_eq_true rfl) (Nat.le_of_ble_eq_true rfl) dX2_takeNumber_44
  · have dc1 : v_tp_4.toInt ≠ 2 := fa_ne c1; have lbc1_0 := i_lo v_tp_4; have ubc1_0 := i_hi v_tp_4
    refine lv_aload_n hx hb dX2_takeNumber_11 rfl (lv_at hl 0 rfl) ?_
    refine lv_iconst (v := 2) hx hb dX2_takeNumber_12 (by decide) ?_
    have l_l22 : (2 : Int32).toInt = 2 := rfl
    refine k_ci (wr := [(a3, .inl (cB, 1300, .inl g_tp_bytes))]) (k_rV hC hN hZ hS hA hK hP hD (c47_X2_refuse l G cI cJ cB cZ a0 a1 a2 a3 2 v_rd_2 v_rd_3 v_rd_4 v_rd_5 v_rd_6 v_rd_7 v_tp_1 v_tp_2 v_tp_3 v_tp_4 w_tp_5 v_tp_6 hv_0 hv_1 hv_2 hv_3 hv_4 hv_5 hv_6 hv_7) [0, 1] rfl (by decide +kernel) mi_X2_refuse in_X2_refuse se_X2_refuse wm_X2_100 2 0 rfl rfl rfl hl.1 rfl rfl (Nat.le_of_ble_eq_true rfl) ⟨(Nat.le_of_ble_eq_true rfl), (Nat.le_of_ble_eq_true rfl)⟩ dX2_takeNumber_13 ⟨(Nat.le_of_ble_eq_true rfl), (Nat.le_of_ble_eq_true rfl)⟩) hP hD hS hA [0, 1] [2] rfl rfl (by decide +kernel) (by decide +kernel) (fun r21 u21 H locs hp hP hD hS => ?_)
    obtain ⟨h23, h24⟩ := u21
    have hp : (r21 = 0 ∧ True) := hp
    obtain rfl : r21 = 0 := hp.1
    have hP : va_P G cl [(a3, .inl (cB, 1300, .inl g_tp_bytes)), (a0, .inr (2, [.ref a1, .ref a2, .int v_rd_2, .int v_rd_3, .int v_rd_4, .int v_rd_5, .int h23, .int h24])), (a1, .inr (5, [.ref a3, .int v_tp_1, .int v_tp_2, .int v_tp_3, .int v_tp_4, .long w_tp_5, .int v_tp_6]))] H := hP
    have hD : va_D A [(a3, .inl (cB, 1300, .inl g_tp_bytes)), (a0, .inr (2, [.ref a1, .ref a2, .int v_rd_2, .int v_rd_3, .int v_rd_4, .int v_rd_5, .int h23, .int h24])), (a1, .inr (5, [.ref a3, .int v_tp_1, .int v_tp_2, .int v_tp_3, .int v_tp_4, .long w_tp_5, .int v_tp_6]))] := hD
    have hq21 := hp
    have l_l25 : (0 : Int32).toInt = 0 := rfl
    rw [← hQm]
    exact k_zret hC hr hlk hK hP hD hS (v_rd_2, h23, h24, v_tp_2, v_tp_3, v_tp_4, w_tp_5, v_tp_6) [1, 2, 0] rfl (by decide +kernel) rfl (Or.inl ⟨rfl, (show 0 ≤ v_tp_2.toInt ∧ v_tp_2.toInt ≤ 1300 from by omega)⟩) (Nat.le_of_ble_eq_true rfl) (Nat.le_of_ble_eq_true rfl) dX2_takeNumber_16
set_option maxHeartbeats 4000000 in
set_option maxRecDepth 100000 in
theorem c63_X2_takeNumber (l : Launch) (G : va_G) (cI cJ cB cZ : ClassId) (a0 a1 a2 a3 : Nat) (v_rd_2 : Int32) (v_rd_3 : Int32) (v_rd_4 : Int32) (v_rd_5 : Int32) (v_rd_6 : Int32) (v_rd_7 : Int32) (v_tp_1 : Int32) (v_tp_2 : Int32) (v_tp_3 : Int32) (v_tp_4 : Int32) (w_tp_5 : Int64) (v_tp_6 : Int32) (g_tp_bytes : Nat → Int32) (hv_0 : 0 ≤ v_rd_3.toInt) (hv_1 : v_rd_3.toInt ≤ 1) (hv_2 : 0 ≤ v_rd_4.toInt) (hv_3 : v_rd_4.toInt ≤ 1) (hv_4 : 0 ≤ v_tp_1.toInt) (hv_5 : v_tp_1.toInt ≤ 1300) (hv_6 : 0 ≤ v_tp_2.toInt) (hv_7 : v_tp_2.toInt ≤ 1300) (hT_g_tp_bytes : TA (-128) 127 g_tp_bytes) : Con l G (TY cI cJ cB cZ) yX2_takeNumber cX2_takeNumber 3 (some .boolean) ({ frames := 3, cells := 0, slots := 0, locals := 61 } : Room) [.ref a0, .int 0, .int 3] [(a0, .inr (2, [.ref a1, .ref a2, .int v_rd_2, .int v_rd_3, .int v_rd_4, .int v_rd_5, .int v_rd_6, .int v_rd_7])), (a1, .inr (5, [.ref a3, .int v_tp_1, .int v_tp_2, .int v_tp_3, .int v_tp_4, .long w_tp_5, .int v_tp_6])), (a3, .inl (cB, 1300, .inl g_tp_bytes))] (QI G (TY cI cJ cB cZ) (fun (r : Int32) (u : Int32 × Int32 × Int32 × Int32 × Int32 × Int32 × Int64 × Int32) => (r = 0 ∧ (0 ≤ u.2.2.2.1.toInt ∧ u.2.2.2.1.toInt ≤ 1300)) ∨ (r = 1 ∧ (0 ≤ u.1.toInt ∧ u.1.toInt ≤ 3 ∧ 0 ≤ u.2.2.2.1.toInt ∧ u.2.2.2.1.toInt ≤ 1300 ∧ 0 ≤ u.2.2.2.2.1.toInt ∧ u.2.2.2.2.1.toInt ≤ 1300 ∧ 0 ≤ u.2.2.2.2.2.1.toInt ∧ u.2.2.2.2.2.1.toInt ≤ 4))) (fun u : Int32 × Int32 × Int32 × Int32 × Int32 × Int32 × Int64 × Int32 => [(a0, .inr (2, [.ref a1, .ref a2, .int u.1, .int v_rd_3, .int v_rd_4, .int v_rd_5, .int u.2.1, .int u.2.2.1])), (a1, .inr (5, [.ref a3, .int v_tp_1, .int u.2.2.2.1, .int u.2.2.2.2.1, .int u.2.2.2.2.2.1, .long u.2.2.2.2.2.2.1, .int u.2.2.2.2.2.2.2])), (a3, .inl (cB, 1300, .inl g_tp_bytes))])) := by
  refine k_met (by decide) (Nat.le_of_ble_eq_true rfl) ?_
  intro p e s m below meth c A ls hC hr hlk hnm hN hZ hK hA hP hD hS hl
  have hl : lv_has ls 3 [(0, .ref a0), (1, .int 0), (2, .int 3)] := hl
  generalize hQm : MQ below _ _ s _ _ A = Qm
  generalize (List.toArray _ : Array Value) = args at hC hQm ⊢
  obtain ⟨hx, hb, hml, hown, hts⟩ := id hC
  obtain ⟨H, hH⟩ : ∃ q, q = s.heap := ⟨_, rfl⟩
  obtain ⟨locs, hlo⟩ : ∃ q : List Loc, q = [] := ⟨_, rfl⟩
  have hP : va_P G cl [(a0, .inr (2, [.ref a1, .ref a2, .int v_rd_2, .int v_rd_3, .int v_rd_4, .int v_rd_5, .int v_rd_6, .int v_rd_7])), (a1, .inr (5, [.ref a3, .int v_tp_1, .int v_tp_2, .int v_tp_3, .int v_tp_4, .long w_tp_5, .int v_tp_6])), (a3, .inl (cB, 1300, .inl g_tp_bytes))] H := by rw [hH]; exact hP
  have hS : va_S A s.heap H locs := by rw [hH, hlo]; exact hS
  rw [← hlo]
  rw [← hH]
  refine lv_aload_n hx hb dX2_takeNumber_0 rfl (lv_at hl 0 rfl) ?_
  refine k_get hC hK hP iX2 0 0 wf_X2_12 rfl (by decide) rfl rfl dX2_takeNumber_1 ?_
  refine k_getN hC hN hK hP iX5 1 4 wf_X2_51 rfl (by decide) rfl rfl dX2_takeNumber_4 ?_
  refine lv_iconst (v := 2) hx hb dX2_takeNumber_7 (by decide) ?_
  refine lv_icmp_eq (tgt := 17) hx hb dX2_takeNumber_8 (by decide) (fun c1 => ?_) (fun c1 => ?_)
  · have dc1 : v_tp_4.toInt = 2 := (fa_eq _ _).mp c1; have lbc1_0 := i_lo v_tp_4; have ubc1_0 := i_hi v_tp_4
    refine lv_aload_n hx hb dX2_takeNumber_17 rfl (lv_at hl 0 rfl) ?_
    refine k_get hC hK hP iX2 0 0 wf_X2_12 rfl (by decide) rfl rfl dX2_takeNumber_18 ?_
    refine k_getN hC hN hK hP iX5 1 6 wf_X2_146 rfl (by decide) rfl rfl dX2_takeNumber_21 ?_
    refine lv_iload_n hx hb dX2_takeNumber_24 rfl (lv_at hl 1 rfl) ?_
    refine lv_icmp_lt (tgt := 39) hx hb dX2_takeNumber_25 (by decide) (fun c2 => ?_) (fun c2 => ?_)
    · have dc2 : v_tp_6.toInt < 0 := (fa_lt _ _).mp c2; have lbc2_0 := i_lo v_tp_6; have ubc2_0 := i_hi v_tp_6
      refine lv_aload_n hx hb dX2_takeNumber_39 rfl (lv_at hl 0 rfl) ?_
      refine lv_iconst (v := 4) hx hb dX2_takeNumber_40 (by decide) ?_
      have l_l4 : (4 : Int32).toInt = 4 := rfl
      refine k_ci (wr := [(a3, .inl (cB, 1300, .inl g_tp_bytes))]) (k_rV hC hN hZ hS hA hK hP hD (c47_X2_refuse l G cI cJ cB cZ a0 a1 a2 a3 4 v_rd_2 v_rd_3 v_rd_4 v_rd_5 v_rd_6 v_rd_7 v_tp_1 v_tp_2 v_tp_3 v_tp_4 w_tp_5 v_tp_6 hv_0 hv_1 hv_2 hv_3 hv_4 hv_5 hv_6 hv_7) [0, 1] rfl (by decide +kernel) mi_X2_refuse in_X2_refuse se_X2_refuse wm_X2_100 2 0 rfl rfl rfl hl.1 rfl rfl (Nat.le_of_ble_eq_true rfl) ⟨(Nat.le_of_ble_eq_true rfl), (Nat.le_of_ble_eq_true rfl)⟩ dX2_takeNumber_41 ⟨(Nat.le_of_ble_eq_true rfl), (Nat.le_of_ble_eq_true rfl)⟩) hP hD hS hA [0, 1] [2] rfl rfl (by decide +kernel) (by decide +kernel) (fun r3 u3 H locs hp hP hD hS => ?_)
      obtain ⟨h5, h6⟩ := u3
      have hp : (r3 = 0 ∧ True) := hp
      obtain rfl : r3 = 0 := hp.1
      have hP : va_P G cl [(a3, .inl (cB, 1300, .inl g_tp_bytes)), (a0, .inr (2, [.ref a1, .ref a2, .int v_rd_2, .int v_rd_3, .int v_rd_4, .int v_rd_5, .int h5, .int h6])), (a1, .inr (5, [.ref a3, .int v_tp_1, .int v_tp_2, .int v_tp_3, .int v_tp_4, .long w_tp_5, .int v_tp_6]))] H := hP
      have hD : va_D A [(a3, .inl (cB, 1300, .inl g_tp_bytes)), (a0, .inr (2, [.ref a1, .ref a2, .int v_rd_2, .int v_rd_3, .int v_rd_4, .int v_rd_5, .int h5, .int h6])), (a1, .inr (5, [.ref a3, .int v_tp_1, .int v_tp_2, .int v_tp_3, .int v_tp_4, .long w_tp_5, .int v_tp_6]))] := hD
      have hq3 := hp
      have l_l7 : (0 : Int32).toInt = 0 := rfl
      rw [← hQm]
      exact k_zret hC hr hlk hK hP hD hS (v_rd_2, h5, h6, v_tp_2, v_tp_3, v_tp_4, w_tp_5, v_tp_6) [1, 2, 0] rfl (by decide +kernel) rfl (Or.inl ⟨rfl, (show 0 ≤ v_tp_2.toInt ∧ v_tp_2.toInt ≤ 1300 from by omega)⟩) (Nat.le_of_ble_eq_true rfl) (Nat.le_of_ble_eq_true rfl) dX2_takeNumber_44
    · have dc2 : 0 ≤ v_tp_6.toInt := fa_nlt c2; have lbc2_0 := i_lo v_tp_6; have ubc2_0 := i_hi v_tp_6
      refine lv_aload_n hx hb dX2_takeNumber_28 rfl (lv_at hl 0 rfl) ?_
      refine k_get hC hK hP iX2 0 0 wf_X2_12 rfl (by decide) rfl rfl dX2_takeNumber_29 ?_
      refine k_getN hC hN hK hP iX5 1 6 wf_X2_146 rfl (by decide) rfl rfl dX2_takeNumber_32 ?_
      refine lv_iload_n hx hb dX2_takeNumber_35 rfl (lv_at hl 2 rfl) ?_
      refine lv_icmp_le (tgt := 45) hx hb dX2_takeNumber_36 (by decide) (fun c8 => ?_) (fun c8 => ?_)
      · have dc8 : v_tp_6.toInt ≤ 3 := (fa_le _ _).mp c8; have ubc8_0 := i_hi v_tp_6
        refine lv_aload_n hx hb dX2_takeNumber_45 rfl (lv_at hl 0 rfl) ?_
        refine lv_aload_n hx hb dX2_takeNumber_46 rfl (lv_at hl 0 rfl) ?_
        refine k_get hC hK hP iX2 0 0 wf_X2_12 rfl (by decide) rfl rfl dX2_takeNumber_47 ?_
        refine k_getN hC hN hK hP iX5 1 6 wf_X2_146 rfl (by decide) rfl rfl dX2_takeNumber_50 ?_
        refine k_put hC hK hP hD hS iX2 tyX2_ok nmX2 0 2 wf_X2_25 rfl (by decide) rfl rfl rfl rfl (Nat.le_of_ble_eq_true rfl) dX2_takeNumber_53 (fun H locs hP hD hS => ?_)
        have hP : va_P G cl [(a0, .inr (2, [.ref a1, .ref a2, .int v_tp_6, .int v_rd_3, .int v_rd_4, .int v_rd_5, .int v_rd_6, .int v_rd_7])), (a1, .inr (5, [.ref a3, .int v_tp_1, .int v_tp_2, .int v_tp_3, .int v_tp_4, .long w_tp_5, .int v_tp_6])), (a3, .inl (cB, 1300, .inl g_tp_bytes))] H := hP
        have hD : va_D A [(a0, .inr (2, [.ref a1, .ref a2, .int v_tp_6, .int v_rd_3, .int v_rd_4, .int v_rd_5, .int v_rd_6, .int v_rd_7])), (a1, .inr (5, [.ref a3, .int v_tp_1, .int v_tp_2, .int v_tp_3, .int v_tp_4, .long w_tp_5, .int v_tp_6])), (a3, .inl (cB, 1300, .inl g_tp_bytes))] := hD
        refine lv_aload_n hx hb dX2_takeNumber_56 rfl (lv_at hl 0 rfl) ?_
        refine k_get hC hK hP iX2 0 0 wf_X2_12 rfl (by decide) rfl rfl dX2_takeNumber_57 ?_
        refine k_cv (wr := [(a0, .inr (2, [.ref a1, .ref a2, .int v_tp_6, .int v_rd_3, .int v_rd_4, .int v_rd_5, .int v_rd_6, .int v_rd_7]))]) (k_rV hC hN hZ hS hA hK hP hD (c20_X5_advance l G cI cJ cB cZ a1 a3 v_tp_1 v_tp_2 v_tp_3 v_tp_4 w_tp_5 v_tp_6 g_tp_bytes hv_4 hv_5 hv_6 hv_7 hT_g_tp_bytes) [1, 2] rfl (by decide +kernel) mi_X5_advance in_X5_advance se_X5_advance wm_X2_104 5 1 rfl rfl rfl hl.1 rfl rfl (Nat.le_of_ble_eq_true rfl) ⟨(Nat.le_of_ble_eq_true rfl), (Nat.le_of_ble_eq_true rfl)⟩ dX2_takeNumber_60 ⟨(Nat.le_of_ble_eq_true rfl), (Nat.le_of_ble_eq_true rfl)⟩) hP hD hS hA [1, 2] [0] rfl rfl (by decide +kernel) (by decide +kernel) (fun u9 H locs hp hP hD hS => ?_)
        obtain ⟨h10, h11, h12, y13, h14⟩ := u9
        have hp : (0 ≤ h10.toInt ∧ h10.toInt ≤ 1300 ∧ 0 ≤ h11.toInt ∧ h11.toInt ≤ 1300 ∧ 0 ≤ h12.toInt ∧ h12.toInt ≤ 4) := hp
        have hP : va_P G cl [(a0, .inr (2, [.ref a1, .ref a2, .int v_tp_6, .int v_rd_3, .int v_rd_4, .int v_rd_5, .int v_rd_6, .int v_rd_7])), (a1, .inr (5, [.ref a3, .int v_tp_1, .int h10, .int h11, .int h12, .long y13, .int h14])), (a3, .inl (cB, 1300, .inl g_tp_bytes))] H := hP
        have hD : va_D A [(a0, .inr (2, [.ref a1, .ref a2, .int v_tp_6, .int v_rd_3, .int v_rd_4, .int v_rd_5, .int v_rd_6, .int v_rd_7])), (a1, .inr (5, [.ref a3, .int v_tp_1, .int h10, .int h11, .int h12, .long y13, .int h14])), (a3, .inl (cB, 1300, .inl g_tp_bytes))] := hD
        have hq9 := hp
        refine lv_iconst (v := 1) hx hb dX2_takeNumber_63 (by decide) ?_
        have l_l15 : (1 : Int32).toInt = 1 := rfl
        rw [← hQm]
        exact k_zret hC hr hlk hK hP hD hS (v_tp_6, v_rd_6, v_rd_7, h10, h11, h12, y13, h14) [0, 1, 2] rfl (by decide +kernel) rfl (Or.inr ⟨rfl, (show 0 ≤ v_tp_6.toInt ∧ v_tp_6.toInt ≤ 3 ∧ 0 ≤ h10.toInt ∧ h10.toInt ≤ 1300 ∧ 0 ≤ h11.toInt ∧ h11.toInt ≤ 1300 ∧ 0 ≤ h12.toInt ∧ h12.toInt ≤ 4 from by omega)⟩) (Nat.le_of_ble_eq_true rfl) (Nat.le_of_ble_eq_true rfl) dX2_takeNumber_64
      · have dc8 : 3 < v_tp_6.toInt := fa_nle c8; have ubc8_0 := i_hi v_tp_6
        refine lv_aload_n hx hb dX2_takeNumber_39 rfl (lv_at hl 0 rfl) ?_
        refine lv_iconst (v := 4) hx hb dX2_takeNumber_40 (by decide) ?_
        have l_l17 : (4 : Int32).toInt = 4 := rfl
        refine k_ci (wr := [(a3, .inl (cB, 1300, .inl g_tp_bytes))]) (k_rV hC hN hZ hS hA hK hP hD (c47_X2_refuse l G cI cJ cB cZ a0 a1 a2 a3 4 v_rd_2 v_rd_3 v_rd_4 v_rd_5 v_rd_6 v_rd_7 v_tp_1 v_tp_2 v_tp_3 v_tp_4 w_tp_5 v_tp_6 hv_0 hv_1 hv_2 hv_3 hv_4 hv_5 hv_6 hv_7) [0, 1] rfl (by decide +kernel) mi_X2_refuse in_X2_refuse se_X2_refuse wm_X2_100 2 0 rfl rfl rfl hl.1 rfl rfl (Nat.le_of_ble_eq_true rfl) ⟨(Nat.le_of_ble_eq_true rfl), (Nat.le_of_ble_eq_true rfl)⟩ dX2_takeNumber_41 ⟨(Nat.le_of_ble_eq_true rfl), (Nat.le_of_ble_eq_true rfl)⟩) hP hD hS hA [0, 1] [2] rfl rfl (by decide +kernel) (by decide +kernel) (fun r16 u16 H locs hp hP hD hS => ?_)
        obtain ⟨h18, h19⟩ := u16
        have hp : (r16 = 0 ∧ True) := hp
        obtain rfl : r16 = 0 := hp.1
        have hP : va_P G cl [(a3, .inl (cB, 1300, .inl g_tp_bytes)), (a0, .inr (2, [.ref a1, .ref a2, .int v_rd_2, .int v_rd_3, .int v_rd_4, .int v_rd_5, .int h18, .int h19])), (a1, .inr (5, [.ref a3, .int v_tp_1, .int v_tp_2, .int v_tp_3, .int v_tp_4, .long w_tp_5, .int v_tp_6]))] H := hP
        have hD : va_D A [(a3, .inl (cB, 1300, .inl g_tp_bytes)), (a0, .inr (2, [.ref a1, .ref a2, .int v_rd_2, .int v_rd_3, .int v_rd_4, .int v_rd_5, .int h18, .int h19])), (a1, .inr (5, [.ref a3, .int v_tp_1, .int v_tp_2, .int v_tp_3, .int v_tp_4, .long w_tp_5, .int v_tp_6]))] := hD
        have hq16 := hp
        have l_l20 : (0 : Int32).toInt = 0 := rfl
        rw [← hQm]
        exact k_zret hC hr hlk hK hP hD hS (v_rd_2, h18, h19, v_tp_2, v_tp_3, v_tp_4, w_tp_5, v_tp_6) [1, 2, 0] rfl (by decide +kernel) rfl (Or.inl ⟨rfl, (show 0 ≤ v_tp_2.toInt ∧ v_tp_2.toInt ≤ 1300 from by omega)⟩) (Nat.le_of_ble_eq_true rfl) (Nat.le_of_ble_eq_true rfl) dX2_takeNumber_44
  · have dc1 : v_tp_4.toInt ≠ 2 := fa_ne c1; have lbc1_0 := i_lo v_tp_4; have ubc1_0 := i_hi v_tp_4
    refine lv_aload_n hx hb dX2_takeNumber_11 rfl (lv_at hl 0 rfl) ?_
    refine lv_iconst (v := 2) hx hb dX2_takeNumber_12 (by decide) ?_
    have l_l22 : (2 : Int32).toInt = 2 := rfl
    refine k_ci (wr := [(a3, .inl (cB, 1300, .inl g_tp_bytes))]) (k_rV hC hN hZ hS hA hK hP hD (c47_X2_refuse l G cI cJ cB cZ a0 a1 a2 a3 2 v_rd_2 v_rd_3 v_rd_4 v_rd_5 v_rd_6 v_rd_7 v_tp_1 v_tp_2 v_tp_3 v_tp_4 w_tp_5 v_tp_6 hv_0 hv_1 hv_2 hv_3 hv_4 hv_5 hv_6 hv_7) [0, 1] rfl (by decide +kernel) mi_X2_refuse in_X2_refuse se_X2_refuse wm_X2_100 2 0 rfl rfl rfl hl.1 rfl rfl (Nat.le_of_ble_eq_true rfl) ⟨(Nat.le_of_ble_eq_true rfl), (Nat.le_of_ble_eq_true rfl)⟩ dX2_takeNumber_13 ⟨(Nat.le_of_ble_eq_true rfl), (Nat.le_of_ble_eq_true rfl)⟩) hP hD hS hA [0, 1] [2] rfl rfl (by decide +kernel) (by decide +kernel) (fun r21 u21 H locs hp hP hD hS => ?_)
    obtain ⟨h23, h24⟩ := u21
    have hp : (r21 = 0 ∧ True) := hp
    obtain rfl : r21 = 0 := hp.1
    have hP : va_P G cl [(a3, .inl (cB, 1300, .inl g_tp_bytes)), (a0, .inr (2, [.ref a1, .ref a2, .int v_rd_2, .int v_rd_3, .int v_rd_4, .int v_rd_5, .int h23, .int h24])), (a1, .inr (5, [.ref a3, .int v_tp_1, .int v_tp_2, .int v_tp_3, .int v_tp_4, .long w_tp_5, .int v_tp_6]))] H := hP
    have hD : va_D A [(a3, .inl (cB, 1300, .inl g_tp_bytes)), (a0, .inr (2, [.ref a1, .ref a2, .int v_rd_2, .int v_rd_3, .int v_rd_4, .int v_rd_5, .int h23, .int h24])), (a1, .inr (5, [.ref a3, .int v_tp_1, .int v_tp_2, .int v_tp_3, .int v_tp_4, .long w_tp_5, .int v_tp_6]))] := hD
    have hq21 := hp
    have l_l25 : (0 : Int32).toInt = 0 := rfl
    rw [← hQm]
    exact k_zret hC hr hlk hK hP hD hS (v_rd_2, h23, h24, v_tp_2, v_tp_3, v_tp_4, w_tp_5, v_tp_6) [1, 2, 0] rfl (by decide +kernel) rfl (Or.inl ⟨rfl, (show 0 ≤ v_tp_2.toInt ∧ v_tp_2.toInt ≤ 1300 from by omega)⟩) (Nat.le_of_ble_eq_true rfl) (Nat.le_of_ble_eq_true rfl) dX2_takeNumber_16
theorem dX2_readStone_0 : decode cX2_readStone 0 = .ok (.aload_n 0, 1) := by decide +kernel
theorem dX2_readStone_1 : decode cX2_readStone 1 = .ok (.getfield 21, 3) := by decide +kernel
theorem dX2_readStone_4 : decode cX2_readStone 4 = .ok (.getfield 149, 3) := by decide +kernel
set_option maxRecDepth 100000 in
theorem wf_X2_149 : Cond.fieldLinkNest RX2 149 "StoneTrust$Village" "stones" "I" "StoneTrust" ∈ nests := nm_ (List.mem_of_getElem? (i := 241) (by decide +kernel)) rfl
theorem dX2_readStone_7 : decode cX2_readStone 7 = .ok (.istore_n 1, 1) := by decide +kernel
theorem dX2_readStone_8 : decode cX2_readStone 8 = .ok (.iload_n 1, 1) := by decide +kernel
theorem dX2_readStone_9 : decode cX2_readStone 9 = .ok (.bipush 6, 2) := by decide +kernel
theorem dX2_readStone_11 : decode cX2_readStone 11 = .ok (.if_icmp .lt 9, 3) := by decide +kernel
theorem dX2_readStone_20 : decode cX2_readStone 20 = .ok (.aload_n 0, 1) := by decide +kernel
theorem dX2_readStone_21 : decode cX2_readStone 21 = .ok (.getfield 12, 3) := by decide +kernel
theorem dX2_readStone_24 : decode cX2_readStone 24 = .ok (.invokevirtual 104, 3) := by decide +kernel
theorem dX2_readStone_27 : decode cX2_readStone 27 = .ok (.aload_n 0, 1) := by decide +kernel
theorem dX2_readStone_28 : decode cX2_readStone 28 = .ok (.getfield 12, 3) := by decide +kernel
theorem dX2_readStone_31 : decode cX2_readStone 31 = .ok (.invokevirtual 152, 3) := by decide +kernel
set_option maxRecDepth 100000 in
theorem wm_X2_152 : Cond.methodLink RX2 152 yX5_isName ∈ gw := gm (List.mem_of_getElem? (i := 667) (by decide +kernel)) rfl
set_option maxRecDepth 100000 in
theorem mi_X5_isName : MI yX5_isName cX5_isName 2 (some .boolean) 0 := ⟨gm (List.mem_of_getElem? (i := 670) rfl) rfl, gm (List.mem_of_getElem? (i := 119) (by decide +kernel)) rfl, by decide, by decide, by decide +kernel⟩
set_option maxRecDepth 100000 in
theorem in_X5_isName : Cond.instanceMethod yX5_isName ∈ gw := gm (List.mem_of_getElem? (i := 668) (by decide +kernel)) rfl
set_option maxRecDepth 100000 in
theorem se_X5_isName : Cond.selects yX5_isName.cls yX5_isName yX5_isName ∈ gw := gm (List.mem_of_getElem? (i := 669) (by decide +kernel)) rfl
theorem dX2_readStone_34 : decode cX2_readStone 34 = .ok (.ifCond .ne 9, 3) := by decide +kernel
theorem dX2_readStone_43 : decode cX2_readStone 43 = .ok (.aload_n 0, 1) := by decide +kernel
theorem dX2_readStone_44 : decode cX2_readStone 44 = .ok (.getfield 21, 3) := by decide +kernel
theorem dX2_readStone_47 : decode cX2_readStone 47 = .ok (.aload_n 0, 1) := by decide +kernel
theorem dX2_readStone_48 : decode cX2_readStone 48 = .ok (.getfield 12, 3) := by decide +kernel
theorem dX2_readStone_51 : decode cX2_readStone 51 = .ok (.getfield 155, 3) := by decide +kernel
set_option maxRecDepth 100000 in
theorem wf_X2_155 : Cond.fieldLinkNest RX2 155 "StoneTrust$Tape" "word" "J" "StoneTrust" ∈ nests := nm_ (List.mem_of_getElem? (i := 318) (by decide +kernel)) rfl
theorem dX2_readStone_54 : decode cX2_readStone 54 = .ok (.invokevirtual 159, 3) := by decide +kernel
set_option maxRecDepth 100000 in
theorem wm_X2_159 : Cond.methodLink RX2 159 yX7_stoneOf ∈ gw := gm (List.mem_of_getElem? (i := 673) (by decide +kernel)) rfl
set_option maxRecDepth 100000 in
theorem mi_X7_stoneOf : MI yX7_stoneOf cX7_stoneOf 4 (some .int) 1 := ⟨gm (List.mem_of_getElem? (i := 676) rfl) rfl, gm (List.mem_of_getElem? (i := 113) (by decide +kernel)) rfl, by decide, by decide, by decide +kernel⟩
set_option maxRecDepth 100000 in
theorem in_X7_stoneOf : Cond.instanceMethod yX7_stoneOf ∈ gw := gm (List.mem_of_getElem? (i := 674) (by decide +kernel)) rfl
set_option maxRecDepth 100000 in
theorem se_X7_stoneOf : Cond.selects yX7_stoneOf.cls yX7_stoneOf yX7_stoneOf ∈ gw := gm (List.mem_of_getElem? (i := 675) (by decide +kernel)) rfl
theorem dX2_readStone_57 : decode cX2_readStone 57 = .ok (.ifCond .lt 9, 3) := by decide +kernel
theorem dX2_readStone_66 : decode cX2_readStone 66 = .ok (.aload_n 0, 1) := by decide +kernel
theorem dX2_readStone_67 : decode cX2_readStone 67 = .ok (.getfield 21, 3) := by decide +kernel
theorem dX2_readStone_70 : decode cX2_readStone 70 = .ok (.getfield 163, 3) := by decide +kernel
set_option maxRecDepth 100000 in
theorem wf_X2_163 : Cond.fieldLinkNest RX2 163 "StoneTrust$Village" "name" "[J" "StoneTrust" ∈ nests := nm_ (List.mem_of_getElem? (i := 244) (by decide +kernel)) rfl
theorem dX2_readStone_73 : decode cX2_readStone 73 = .ok (.iload_n 1, 1) := by decide +kernel
theorem dX2_readStone_74 : decode cX2_readStone 74 = .ok (.aload_n 0, 1) := by decide +kernel
theorem dX2_readStone_75 : decode cX2_readStone 75 = .ok (.getfield 12, 3) := by decide +kernel
theorem dX2_readStone_78 : decode cX2_readStone 78 = .ok (.getfield 155, 3) := by decide +kernel
theorem dX2_readStone_81 : decode cX2_readStone 81 = .ok (.lastore, 1) := by decide +kernel
theorem dX2_readStone_82 : decode cX2_readStone 82 = .ok (.aload_n 0, 1) := by decide +kernel
theorem dX2_readStone_83 : decode cX2_readStone 83 = .ok (.getfield 12, 3) := by decide +kernel
theorem dX2_readStone_86 : decode cX2_readStone 86 = .ok (.invokevirtual 104, 3) := by decide +kernel
theorem dX2_readStone_89 : decode cX2_readStone 89 = .ok (.aload_n 0, 1) := by decide +kernel
theorem dX2_readStone_90 : decode cX2_readStone 90 = .ok (.ldc2_w 167, 3) := by decide +kernel
set_option maxRecDepth 100000 in
theorem kl_X2_167 : Cond.constantLong RX2 167 1935767923 ∈ gw := gm (List.mem_of_getElem? (i := 677) (by decide +kernel)) rfl
theorem dX2_readStone_93 : decode cX2_readStone 93 = .ok (.invokevirtual 113, 3) := by decide +kernel
theorem dX2_readStone_96 : decode cX2_readStone 96 = .ok (.ifCond .eq 13, 3) := by decide +kernel
theorem dX2_readStone_109 : decode cX2_readStone 109 = .ok (.iconst 0, 1) := by decide +kernel
theorem dX2_readStone_110 : decode cX2_readStone 110 = .ok (.ireturn, 1) := by decide +kernel
theorem dX2_readStone_99 : decode cX2_readStone 99 = .ok (.aload_n 0, 1) := by decide +kernel
theorem dX2_readStone_100 : decode cX2_readStone 100 = .ok (.iconst 1, 1) := by decide +kernel
theorem dX2_readStone_101 : decode cX2_readStone 101 = .ok (.bipush 9, 2) := by decide +kernel
theorem dX2_readStone_103 : decode cX2_readStone 103 = .ok (.invokevirtual 107, 3) := by decide +kernel
theorem dX2_readStone_106 : decode cX2_readStone 106 = .ok (.ifCond .ne 5, 3) := by decide +kernel
theorem dX2_readStone_111 : decode cX2_readStone 111 = .ok (.aload_n 0, 1) := by decide +kernel
theorem dX2_readStone_112 : decode cX2_readStone 112 = .ok (.getfield 21, 3) := by decide +kernel
theorem dX2_readStone_115 : decode cX2_readStone 115 = .ok (.getfield 169, 3) := by decide +kernel
set_option maxRecDepth 100000 in
theorem wf_X2_169 : Cond.fieldLinkNest RX2 169 "StoneTrust$Village" "says" "[I" "StoneTrust" ∈ nests := nm_ (List.mem_of_getElem? (i := 246) (by decide +kernel)) rfl
theorem dX2_readStone_118 : decode cX2_readStone 118 = .ok (.iload_n 1, 1) := by decide +kernel
theorem dX2_readStone_119 : decode cX2_readStone 119 = .ok (.aload_n 0, 1) := by decide +kernel
theorem dX2_readStone_120 : decode cX2_readStone 120 = .ok (.getfield 25, 3) := by decide +kernel
theorem dX2_readStone_123 : decode cX2_readStone 123 = .ok (.iastore, 1) := by decide +kernel
theorem dX2_readStone_124 : decode cX2_readStone 124 = .ok (.aload_n 0, 1) := by decide +kernel
theorem dX2_readStone_125 : decode cX2_readStone 125 = .ok (.ldc2_w 172, 3) := by decide +kernel
set_option maxRecDepth 100000 in
theorem kl_X2_172 : Cond.constantLong RX2 172 26990 ∈ gw := gm (List.mem_of_getElem? (i := 678) (by decide +kernel)) rfl
theorem dX2_readStone_128 : decode cX2_readStone 128 = .ok (.invokevirtual 113, 3) := by decide +kernel
theorem dX2_readStone_131 : decode cX2_readStone 131 = .ok (.ifCond .eq 12, 3) := by decide +kernel
theorem dX2_readStone_143 : decode cX2_readStone 143 = .ok (.iconst 0, 1) := by decide +kernel
theorem dX2_readStone_144 : decode cX2_readStone 144 = .ok (.ireturn, 1) := by decide +kernel
theorem dX2_readStone_134 : decode cX2_readStone 134 = .ok (.aload_n 0, 1) := by decide +kernel
theorem dX2_readStone_135 : decode cX2_readStone 135 = .ok (.iconst 0, 1) := by decide +kernel
theorem dX2_readStone_136 : decode cX2_readStone 136 = .ok (.iconst 1, 1) := by decide +kernel
theorem dX2_readStone_137 : decode cX2_readStone 137 = .ok (.invokevirtual 107, 3) := by decide +kernel
theorem dX2_readStone_140 : decode cX2_readStone 140 = .ok (.ifCond .ne 5, 3) := by decide +kernel
theorem dX2_readStone_145 : decode cX2_readStone 145 = .ok (.aload_n 0, 1) := by decide +kernel
theorem dX2_readStone_146 : decode cX2_readStone 146 = .ok (.getfield 21, 3) := by decide +kernel
theorem dX2_readStone_149 : decode cX2_readStone 149 = .ok (.getfield 174, 3) := by decide +kernel
set_option maxRecDepth 100000 in
theorem wf_X2_174 : Cond.fieldLinkNest RX2 174 "StoneTrust$Village" "town" "[I" "StoneTrust" ∈ nests := nm_ (List.mem_of_getElem? (i := 249) (by decide +kernel)) rfl
theorem dX2_readStone_152 : decode cX2_readStone 152 = .ok (.iload_n 1, 1) := by decide +kernel
theorem dX2_readStone_153 : decode cX2_readStone 153 = .ok (.aload_n 0, 1) := by decide +kernel
theorem dX2_readStone_154 : decode cX2_readStone 154 = .ok (.getfield 25, 3) := by decide +kernel
theorem dX2_readStone_157 : decode cX2_readStone 157 = .ok (.iastore, 1) := by decide +kernel
theorem dX2_readStone_158 : decode cX2_readStone 158 = .ok (.aload_n 0, 1) := by decide +kernel
theorem dX2_readStone_159 : decode cX2_readStone 159 = .ok (.ldc2_w 177, 3) := by decide +kernel
set_option maxRecDepth 100000 in
theorem kl_X2_177 : Cond.constantLong RX2 177 7300710 ∈ gw := gm (List.mem_of_getElem? (i := 679) (by decide +kernel)) rfl
theorem dX2_readStone_162 : decode cX2_readStone 162 = .ok (.invokevirtual 113, 3) := by decide +kernel
theorem dX2_readStone_165 : decode cX2_readStone 165 = .ok (.ifCond .eq 12, 3) := by decide +kernel
theorem dX2_readStone_177 : decode cX2_readStone 177 = .ok (.iconst 0, 1) := by decide +kernel
theorem dX2_readStone_178 : decode cX2_readStone 178 = .ok (.ireturn, 1) := by decide +kernel
theorem dX2_readStone_168 : decode cX2_readStone 168 = .ok (.aload_n 0, 1) := by decide +kernel
theorem dX2_readStone_169 : decode cX2_readStone 169 = .ok (.iconst 0, 1) := by decide +kernel
theorem dX2_readStone_170 : decode cX2_readStone 170 = .ok (.iconst 4, 1) := by decide +kernel
theorem dX2_readStone_171 : decode cX2_readStone 171 = .ok (.invokevirtual 107, 3) := by decide +kernel
theorem dX2_readStone_174 : decode cX2_readStone 174 = .ok (.ifCond .ne 5, 3) := by decide +kernel
theorem dX2_readStone_179 : decode cX2_readStone 179 = .ok (.aload_n 0, 1) := by decide +kernel
theorem dX2_readStone_180 : decode cX2_readStone 180 = .ok (.getfield 21, 3) := by decide +kernel
theorem dX2_readStone_183 : decode cX2_readStone 183 = .ok (.getfield 179, 3) := by decide +kernel
set_option maxRecDepth 100000 in
theorem wf_X2_179 : Cond.fieldLinkNest RX2 179 "StoneTrust$Village" "off" "[I" "StoneTrust" ∈ nests := nm_ (List.mem_of_getElem? (i := 251) (by decide +kernel)) rfl
theorem dX2_readStone_186 : decode cX2_readStone 186 = .ok (.iload_n 1, 1) := by decide +kernel
theorem dX2_readStone_187 : decode cX2_readStone 187 = .ok (.aload_n 0, 1) := by decide +kernel
theorem dX2_readStone_188 : decode cX2_readStone 188 = .ok (.getfield 25, 3) := by decide +kernel
theorem dX2_readStone_191 : decode cX2_readStone 191 = .ok (.iastore, 1) := by decide +kernel
theorem dX2_readStone_192 : decode cX2_readStone 192 = .ok (.aload_n 0, 1) := by decide +kernel
theorem dX2_readStone_193 : decode cX2_readStone 193 = .ok (.ldc2_w 182, 3) := by decide +kernel
set_option maxRecDepth 100000 in
theorem kl_X2_182 : Cond.constantLong RX2 182 2003792494 ∈ gw := gm (List.mem_of_getElem? (i := 680) (by decide +kernel)) rfl
theorem dX2_readStone_196 : decode cX2_readStone 196 = .ok (.invokevirtual 113, 3) := by decide +kernel
theorem dX2_readStone_199 : decode cX2_readStone 199 = .ok (.ifCond .eq 12, 3) := by decide +kernel
theorem dX2_readStone_211 : decode cX2_readStone 211 = .ok (.iconst 0, 1) := by decide +kernel
theorem dX2_readStone_212 : decode cX2_readStone 212 = .ok (.ireturn, 1) := by decide +kernel
theorem dX2_readStone_202 : decode cX2_readStone 202 = .ok (.aload_n 0, 1) := by decide +kernel
theorem dX2_readStone_203 : decode cX2_readStone 203 = .ok (.iconst 0, 1) := by decide +kernel
theorem dX2_readStone_204 : decode cX2_readStone 204 = .ok (.iconst 3, 1) := by decide +kernel
theorem dX2_readStone_205 : decode cX2_readStone 205 = .ok (.invokevirtual 107, 3) := by decide +kernel
theorem dX2_readStone_208 : decode cX2_readStone 208 = .ok (.ifCond .ne 5, 3) := by decide +kernel
theorem dX2_readStone_213 : decode cX2_readStone 213 = .ok (.aload_n 0, 1) := by decide +kernel
theorem dX2_readStone_214 : decode cX2_readStone 214 = .ok (.getfield 21, 3) := by decide +kernel
theorem dX2_readStone_217 : decode cX2_readStone 217 = .ok (.getfield 184, 3) := by decide +kernel
set_option maxRecDepth 100000 in
theorem wf_X2_184 : Cond.fieldLinkNest RX2 184 "StoneTrust$Village" "worn" "[I" "StoneTrust" ∈ nests := nm_ (List.mem_of_getElem? (i := 254) (by decide +kernel)) rfl
theorem dX2_readStone_220 : decode cX2_readStone 220 = .ok (.iload_n 1, 1) := by decide +kernel
theorem dX2_readStone_221 : decode cX2_readStone 221 = .ok (.aload_n 0, 1) := by decide +kernel
theorem dX2_readStone_222 : decode cX2_readStone 222 = .ok (.getfield 25, 3) := by decide +kernel
theorem dX2_readStone_225 : decode cX2_readStone 225 = .ok (.iastore, 1) := by decide +kernel
theorem dX2_readStone_226 : decode cX2_readStone 226 = .ok (.aload_n 0, 1) := by decide +kernel
theorem dX2_readStone_227 : decode cX2_readStone 227 = .ok (.getfield 21, 3) := by decide +kernel
theorem dX2_readStone_230 : decode cX2_readStone 230 = .ok (.getfield 187, 3) := by decide +kernel
set_option maxRecDepth 100000 in
theorem wf_X2_187 : Cond.fieldLinkNest RX2 187 "StoneTrust$Village" "masterLow" "[I" "StoneTrust" ∈ nests := nm_ (List.mem_of_getElem? (i := 256) (by decide +kernel)) rfl
theorem dX2_readStone_233 : decode cX2_readStone 233 = .ok (.iload_n 1, 1) := by decide +kernel
theorem dX2_readStone_234 : decode cX2_readStone 234 = .ok (.iconst (-1), 1) := by decide +kernel
theorem dX2_readStone_235 : decode cX2_readStone 235 = .ok (.iastore, 1) := by decide +kernel
theorem dX2_readStone_236 : decode cX2_readStone 236 = .ok (.aload_n 0, 1) := by decide +kernel
theorem dX2_readStone_237 : decode cX2_readStone 237 = .ok (.getfield 21, 3) := by decide +kernel
theorem dX2_readStone_240 : decode cX2_readStone 240 = .ok (.getfield 190, 3) := by decide +kernel
set_option maxRecDepth 100000 in
theorem wf_X2_190 : Cond.fieldLinkNest RX2 190 "StoneTrust$Village" "masterHigh" "[I" "StoneTrust" ∈ nests := nm_ (List.mem_of_getElem? (i := 258) (by decide +kernel)) rfl
theorem dX2_readStone_243 : decode cX2_readStone 243 = .ok (.iload_n 1, 1) := by decide +kernel
theorem dX2_readStone_244 : decode cX2_readStone 244 = .ok (.iconst (-1), 1) := by decide +kernel
theorem dX2_readStone_245 : decode cX2_readStone 245 = .ok (.iastore, 1) := by decide +kernel
theorem dX2_readStone_246 : decode cX2_readStone 246 = .ok (.aload_n 0, 1) := by decide +kernel
theorem dX2_readStone_247 : decode cX2_readStone 247 = .ok (.getfield 21, 3) := by decide +kernel
theorem dX2_readStone_250 : decode cX2_readStone 250 = .ok (.dup, 1) := by decide +kernel
theorem dX2_readStone_251 : decode cX2_readStone 251 = .ok (.getfield 149, 3) := by decide +kernel
theorem dX2_readStone_254 : decode cX2_readStone 254 = .ok (.iconst 1, 1) := by decide +kernel
theorem dX2_readStone_255 : decode cX2_readStone 255 = .ok (.iadd, 1) := by decide +kernel
theorem dX2_readStone_256 : decode cX2_readStone 256 = .ok (.putfield 149, 3) := by decide +kernel
theorem dX2_readStone_259 : decode cX2_readStone 259 = .ok (.aload_n 0, 1) := by decide +kernel
theorem dX2_readStone_260 : decode cX2_readStone 260 = .ok (.invokevirtual 128, 3) := by decide +kernel
theorem dX2_readStone_263 : decode cX2_readStone 263 = .ok (.ireturn, 1) := by decide +kernel
theorem dX2_readStone_60 : decode cX2_readStone 60 = .ok (.aload_n 0, 1) := by decide +kernel
theorem dX2_readStone_61 : decode cX2_readStone 61 = .ok (.iconst 3, 1) := by decide +kernel
theorem dX2_readStone_62 : decode cX2_readStone 62 = .ok (.invokevirtual 100, 3) := by decide +kernel
theorem dX2_readStone_65 : decode cX2_readStone 65 = .ok (.ireturn, 1) := by decide +kernel
theorem dX2_readStone_37 : decode cX2_readStone 37 = .ok (.aload_n 0, 1) := by decide +kernel
theorem dX2_readStone_38 : decode cX2_readStone 38 = .ok (.iconst 2, 1) := by decide +kernel
theorem dX2_readStone_39 : decode cX2_readStone 39 = .ok (.invokevirtual 100, 3) := by decide +kernel
theorem dX2_readStone_42 : decode cX2_readStone 42 = .ok (.ireturn, 1) := by decide +kernel
theorem dX2_readStone_14 : decode cX2_readStone 14 = .ok (.aload_n 0, 1) := by decide +kernel
theorem dX2_readStone_15 : decode cX2_readStone 15 = .ok (.iconst 2, 1) := by decide +kernel
theorem dX2_readStone_16 : decode cX2_readStone 16 = .ok (.invokevirtual 100, 3) := by decide +kernel
theorem dX2_readStone_19 : decode cX2_readStone 19 = .ok (.ireturn, 1) := by decide +kernel
set_option maxHeartbeats 4000000 in
set_option maxRecDepth 100000 in
theorem c64_X2_readStone (l : Launch) (G : va_G) (cI cJ cB cZ : ClassId) (a0 a1 a2 a3 a4 a5 a6 a7 a8 a9 a10 a11 a12 a13 a14 : Nat) (v_rd_2 : Int32) (v_rd_3 : Int32) (v_rd_4 : Int32) (v_rd_5 : Int32) (v_rd_6 : Int32) (v_rd_7 : Int32) (v_M_0 : Int32) (v_M_1 : Int32) (v_M_2 : Int32) (v_M_5 : Int32) (v_tp_1 : Int32) (v_tp_2 : Int32) (v_tp_3 : Int32) (v_tp_4 : Int32) (w_tp_5 : Int64) (v_tp_6 : Int32) (g_tp_bytes : Nat → Int32) (g_M_name : Nat → Int64) (g_M_says : Nat → Int32) (g_M_town : Nat → Int32) (g_M_off : Nat → Int32) (g_M_worn : Nat → Int32) (g_M_masterLow : Nat → Int32) (g_M_masterHigh : Nat → Int32) (hv_0 : 0 ≤ v_rd_3.toInt) (hv_1 : v_rd_3.toInt ≤ 1) (hv_2 : 0 ≤ v_rd_4.toInt) (hv_3 : v_rd_4.toInt ≤ 1) (hv_4 : 0 ≤ v_M_0.toInt) (hv_5 : v_M_0.toInt ≤ 110) (hv_6 : 0 ≤ v_M_1.toInt) (hv_7 : v_M_1.toInt ≤ 110) (hv_8 : 0 ≤ v_M_5.toInt) (hv_9 : v_M_5.toInt ≤ 6) (hv_10 : 0 ≤ v_tp_1.toInt) (hv_11 : v_tp_1.toInt ≤ 1300) (hv_12 : 0 ≤ v_tp_2.toInt) (hv_13 : v_tp_2.toInt ≤ 1300) (hT_g_tp_bytes : TA (-128) 127 g_tp_bytes) (hT_g_M_says : TA 0 9 g_M_says) (hT_g_M_off : TA 0 4 g_M_off) : Con l G (TY cI cJ cB cZ) yX2_readStone cX2_readStone 2 (some .boolean) ({ frames := 4, cells := 0, slots := 0, locals := 83 } : Room) [.ref a0] [(a0, .inr (2, [.ref a1, .ref a2, .int v_rd_2, .int v_rd_3, .int v_rd_4, .int v_rd_5, .int v_rd_6, .int v_rd_7])), (a2, .inr (7, [.int v_M_0, .int v_M_1, .int v_M_2, .ref a3, .ref a4, .int v_M_5, .ref a5, .ref a6, .ref a7, .ref a8, .ref a9, .ref a10, .ref a11, .ref a12, .ref a13])), (a1, .inr (5, [.ref a14, .int v_tp_1, .int v_tp_2, .int v_tp_3, .int v_tp_4, .long w_tp_5, .int v_tp_6])), (a14, .inl (cB, 1300, .inl g_tp_bytes)), (a5, .inl (cJ, 6, .inr (.inl g_M_name))), (a6, .inl (cI, 6, .inl g_M_says)), (a7, .inl (cI, 6, .inl g_M_town)), (a8, .inl (cI, 6, .inl g_M_off)), (a9, .inl (cI, 6, .inl g_M_worn)), (a10, .inl (cI, 6, .inl g_M_masterLow)), (a11, .inl (cI, 6, .inl g_M_masterHigh))] (QI G (TY cI cJ cB cZ) (fun (r : Int32) (u : Int32 × Int32 × Int32 × Int32 × Int32 × Int32 × Int32 × Int64 × Int32 × (Nat → Int64) × (Nat → Int32) × (Nat → Int32) × (Nat → Int32) × (Nat → Int32) × (Nat → Int32) × (Nat → Int32)) => (0 ≤ r.toInt ∧ r.toInt ≤ 1 ∧ 0 ≤ u.2.2.2.1.toInt ∧ u.2.2.2.1.toInt ≤ 6 ∧ 0 ≤ u.2.2.2.2.1.toInt ∧ u.2.2.2.2.1.toInt ≤ 1300) ∧ TA 0 9 u.2.2.2.2.2.2.2.2.2.2.1 ∧ TA 0 4 u.2.2.2.2.2.2.2.2.2.2.2.2.1) (fun u : Int32 × Int32 × Int32 × Int32 × Int32 × Int32 × Int32 × Int64 × Int32 × (Nat → Int64) × (Nat → Int32) × (Nat → Int32) × (Nat → Int32) × (Nat → Int32) × (Nat → Int32) × (Nat → Int32) => [(a0, .inr (2, [.ref a1, .ref a2, .int u.1, .int v_rd_3, .int v_rd_4, .int v_rd_5, .int u.2.1, .int u.2.2.1])), (a2, .inr (7, [.int v_M_0, .int v_M_1, .int v_M_2, .ref a3, .ref a4, .int u.2.2.2.1, .ref a5, .ref a6, .ref a7, .ref a8, .ref a9, .ref a10, .ref a11, .ref a12, .ref a13])), (a1, .inr (5, [.ref a14, .int v_tp_1, .int u.2.2.2.2.1, .int u.2.2.2.2.2.1, .int u.2.2.2.2.2.2.1, .long u.2.2.2.2.2.2.2.1, .int u.2.2.2.2.2.2.2.2.1])), (a14, .inl (cB, 1300, .inl g_tp_bytes)), (a5, .inl (cJ, 6, .inr (.inl u.2.2.2.2.2.2.2.2.2.1))), (a6, .inl (cI, 6, .inl u.2.2.2.2.2.2.2.2.2.2.1)), (a7, .inl (cI, 6, .inl u.2.2.2.2.2.2.2.2.2.2.2.1)), (a8, .inl (cI, 6, .inl u.2.2.2.2.2.2.2.2.2.2.2.2.1)), (a9, .inl (cI, 6, .inl u.2.2.2.2.2.2.2.2.2.2.2.2.2.1)), (a10, .inl (cI, 6, .inl u.2.2.2.2.2.2.2.2.2.2.2.2.2.2.1)), (a11, .inl (cI, 6, .inl u.2.2.2.2.2.2.2.2.2.2.2.2.2.2.2))])) := by
  refine k_met (by decide) (Nat.le_of_ble_eq_true rfl) ?_
  intro p e s m below meth c A ls hC hr hlk hnm hN hZ hK hA hP hD hS hl
  have hl : lv_has ls 2 [(0, .ref a0)] := hl
  generalize hQm : MQ below _ _ s _ _ A = Qm
  generalize (List.toArray _ : Array Value) = args at hC hQm ⊢
  obtain ⟨hx, hb, hml, hown, hts⟩ := id hC
  obtain ⟨H, hH⟩ : ∃ q, q = s.heap := ⟨_, rfl⟩
  obtain ⟨locs, hlo⟩ : ∃ q : List Loc, q = [] := ⟨_, rfl⟩
  have hP : va_P G cl [(a0, .inr (2, [.ref a1, .ref a2, .int v_rd_2, .int v_rd_3, .int v_rd_4, .int v_rd_5, .int v_rd_6, .int v_rd_7])), (a2, .inr (7, [.int v_M_0, .int v_M_1, .int v_M_2, .ref a3, .ref a4, .int v_M_5, .ref a5, .ref a6, .ref a7, .ref a8, .ref a9, .ref a10, .ref a11, .ref a12, .ref a13])), (a1, .inr (5, [.ref a14, .int v_tp_1, .int v_tp_2, .int v_tp_3, .int v_tp_4, .long w_tp_5, .int v_tp_6])), (a14, .inl (cB, 1300, .inl g_tp_bytes)), (a5, .inl (cJ, 6, .inr (.inl g_M_name))), (a6, .inl (cI, 6, .inl g_M_says)), (a7, .inl (cI, 6, .inl g_M_town)), (a8, .inl (cI, 6, .inl g_M_off)), (a9, .inl (cI, 6, .inl g_M_worn)), (a10, .inl (cI, 6, .inl g_M_masterLow)), (a11, .inl (cI, 6, .inl g_M_masterHigh))] H := by rw [hH]; exact hP
  have hS : va_S A s.heap H locs := by rw [hH, hlo]; exact hS
  rw [← hlo]
  rw [← hH]
  refine lv_aload_n hx hb dX2_readStone_0 rfl (lv_at hl 0 rfl) ?_
  refine k_get hC hK hP iX2 0 1 wf_X2_21 rfl (by decide) rfl rfl dX2_readStone_1 ?_
  refine k_getN hC hN hK hP iX7 1 5 wf_X2_149 rfl (by decide) rfl rfl dX2_readStone_4 ?_
  refine lv_istore_n (lv' := [(1, .int v_M_5), (0, .ref a0)]) hx hb dX2_readStone_7 rfl hl (by decide) rfl (fun ls hl => ?_)
  refine lv_iload_n hx hb dX2_readStone_8 rfl (lv_at hl 0 rfl) ?_
  refine lv_bipush (v := 6) hx hb dX2_readStone_9 (by decide) ?_
  refine lv_icmp_lt (tgt := 20) hx hb dX2_readStone_11 (by decide) (fun c1 => ?_) (fun c1 => ?_)
  · have dc1 : v_M_5.toInt < 6 := (fa_lt _ _).mp c1
    refine lv_aload_n hx hb dX2_readStone_20 rfl (lv_at hl 1 rfl) ?_
    refine k_get hC hK hP iX2 0 0 wf_X2_12 rfl (by decide) rfl rfl dX2_readStone_21 ?_
    refine k_cv (wr := [(a0, .inr (2, [.ref a1, .ref a2, .int v_rd_2, .int v_rd_3, .int v_rd_4, .int v_rd_5, .int v_rd_6, .int v_rd_7])), (a2, .inr (7, [.int v_M_0, .int v_M_1, .int v_M_2, .ref a3, .ref a4, .int v_M_5, .ref a5, .ref a6, .ref a7, .ref a8, .ref a9, .ref a10, .ref a11, .ref a12, .ref a13])), (a5, .inl (cJ, 6, .inr (.inl g_M_name))), (a6, .inl (cI, 6, .inl g_M_says)), (a7, .inl (cI, 6, .inl g_M_town)), (a8, .inl (cI, 6, .inl g_M_off)), (a9, .inl (cI, 6, .inl g_M_worn)), (a10, .inl (cI, 6, .inl g_M_masterLow)), (a11, .inl (cI, 6, .inl g_M_masterHigh))]) (k_rV hC hN hZ hS hA hK hP hD (c20_X5_advance l G cI cJ cB cZ a1 a14 v_tp_1 v_tp_2 v_tp_3 v_tp_4 w_tp_5 v_tp_6 g_tp_bytes hv_10 hv_11 hv_12 hv_13 hT_g_tp_bytes) [2, 3] rfl (by decide +kernel) mi_X5_advance in_X5_advance se_X5_advance wm_X2_104 5 2 rfl rfl rfl hl.1 rfl rfl (Nat.le_of_ble_eq_true rfl) ⟨(Nat.le_of_ble_eq_true rfl), (Nat.le_of_ble_eq_true rfl)⟩ dX2_readStone_24 ⟨(Nat.le_of_ble_eq_true rfl), (Nat.le_of_ble_eq_true rfl)⟩) hP hD hS hA [2, 3] [0, 1, 4, 5, 6, 7, 8, 9, 10] rfl rfl (by decide +kernel) (by decide +kernel) (fun u2 H locs hp hP hD hS => ?_)
    obtain ⟨h3, h4, h5, y6, h7⟩ := u2
    have hp : (0 ≤ h3.toInt ∧ h3.toInt ≤ 1300 ∧ 0 ≤ h4.toInt ∧ h4.toInt ≤ 1300 ∧ 0 ≤ h5.toInt ∧ h5.toInt ≤ 4) := hp
    have hP : va_P G cl [(a0, .inr (2, [.ref a1, .ref a2, .int v_rd_2, .int v_rd_3, .int v_rd_4, .int v_rd_5, .int v_rd_6, .int v_rd_7])), (a2, .inr (7, [.int v_M_0, .int v_M_1, .int v_M_2, .ref a3, .ref a4, .int v_M_5, .ref a5, .ref a6, .ref a7, .ref a8, .ref a9, .ref a10, .ref a11, .ref a12, .ref a13])), (a5, .inl (cJ, 6, .inr (.inl g_M_name))), (a6, .inl (cI, 6, .inl g_M_says)), (a7, .inl (cI, 6, .inl g_M_town)), (a8, .inl (cI, 6, .inl g_M_off)), (a9, .inl (cI, 6, .inl g_M_worn)), (a10, .inl (cI, 6, .inl g_M_masterLow)), (a11, .inl (cI, 6, .inl g_M_masterHigh)), (a1, .inr (5, [.ref a14, .int v_tp_1, .int h3, .int h4, .int h5, .long y6, .int h7])), (a14, .inl (cB, 1300, .inl g_tp_bytes))] H := hP
    have hD : va_D A [(a0, .inr (2, [.ref a1, .ref a2, .int v_rd_2, .int v_rd_3, .int v_rd_4, .int v_rd_5, .int v_rd_6, .int v_rd_7])), (a2, .inr (7, [.int v_M_0, .int v_M_1, .int v_M_2, .ref a3, .ref a4, .int v_M_5, .ref a5, .ref a6, .ref a7, .ref a8, .ref a9, .ref a10, .ref a11, .ref a12, .ref a13])), (a5, .inl (cJ, 6, .inr (.inl g_M_name))), (a6, .inl (cI, 6, .inl g_M_says)), (a7, .inl (cI, 6, .inl g_M_town)), (a8, .inl (cI, 6, .inl g_M_off)), (a9, .inl (cI, 6, .inl g_M_worn)), (a10, .inl (cI, 6, .inl g_M_masterLow)), (a11, .inl (cI, 6, .inl g_M_masterHigh)), (a1, .inr (5, [.ref a14, .int v_tp_1, .int h3, .int h4, .int h5, .long y6, .int h7])), (a14, .inl (cB, 1300, .inl g_tp_bytes))] := hD
    have hq2 := hp
    refine lv_aload_n hx hb dX2_readStone_27 rfl (lv_at hl 1 rfl) ?_
    refine k_get hC hK hP iX2 0 0 wf_X2_12 rfl (by decide) rfl rfl dX2_readStone_28 ?_
    refine k_ci (wr := [(a0, .inr (2, [.ref a1, .ref a2, .int v_rd_2, .int v_rd_3, .int v_rd_4, .int v_rd_5, .int v_rd_6, .int v_rd_7])), (a2, .inr (7, [.int v_M_0, .int v_M_1, .int v_M_2, .ref a3, .ref a4, .int v_M_5, .ref a5, .ref a6, .ref a7, .ref a8, .ref a9, .ref a10, .ref a11, .ref a12, .ref a13])), (a5, .inl (cJ, 6, .inr (.inl g_M_name))), (a6, .inl (cI, 6, .inl g_M_says)), (a7, .inl (cI, 6, .inl g_M_town)), (a8, .inl (cI, 6, .inl g_M_off)), (a9, .inl (cI, 6, .inl g_M_worn)), (a10, .inl (cI, 6, .inl g_M_masterLow)), (a11, .inl (cI, 6, .inl g_M_masterHigh)), (a14, .inl (cB, 1300, .inl g_tp_bytes))]) (k_rV hC hN hZ hS hA hK hP hD (c60_X5_isName l G cI cJ cB cZ a1 a14 v_tp_1 h3 h4 h5 y6 h7 hv_10 hv_11 (by omega) (by omega)) [9] rfl (by decide +kernel) mi_X5_isName in_X5_isName se_X5_isName wm_X2_152 5 9 rfl rfl rfl hl.1 rfl rfl (Nat.le_of_ble_eq_true rfl) ⟨(Nat.le_of_ble_eq_true rfl), (Nat.le_of_ble_eq_true rfl)⟩ dX2_readStone_31 ⟨(Nat.le_of_ble_eq_true rfl), (Nat.le_of_ble_eq_true rfl)⟩) hP hD hS hA [9] [0, 1, 2, 3, 4, 5, 6, 7, 8, 10] rfl rfl (by decide +kernel) (by decide +kernel) (fun r8 u8 H locs hp hP hD hS => ?_)
    have hp : (0 ≤ r8.toInt ∧ r8.toInt ≤ 1) := hp
    have hP : va_P G cl [(a0, .inr (2, [.ref a1, .ref a2, .int v_rd_2, .int v_rd_3, .int v_rd_4, .int v_rd_5, .int v_rd_6, .int v_rd_7])), (a2, .inr (7, [.int v_M_0, .int v_M_1, .int v_M_2, .ref a3, .ref a4, .int v_M_5, .ref a5, .ref a6, .ref a7, .ref a8, .ref a9, .ref a10, .ref a11, .ref a12, .ref a13])), (a5, .inl (cJ, 6, .inr (.inl g_M_name))), (a6, .inl (cI, 6, .inl g_M_says)), (a7, .inl (cI, 6, .inl g_M_town)), (a8, .inl (cI, 6, .inl g_M_off)), (a9, .inl (cI, 6, .inl g_M_worn)), (a10, .inl (cI, 6, .inl g_M_masterLow)), (a11, .inl (cI, 6, .inl g_M_masterHigh)), (a14, .inl (cB, 1300, .inl g_tp_bytes)), (a1, .inr (5, [.ref a14, .int v_tp_1, .int h3, .int h4, .int h5, .long y6, .int h7]))] H := hP
    have hD : va_D A [(a0, .inr (2, [.ref a1, .ref a2, .int v_rd_2, .int v_rd_3, .int v_rd_4, .int v_rd_5, .int v_rd_6, .int v_rd_7])), (a2, .inr (7, [.int v_M_0, .int v_M_1, .int v_M_2, .ref a3, .ref a4, .int v_M_5, .ref a5, .ref a6, .ref a7, .ref a8, .ref a9, .ref a10, .ref a11, .ref a12, .ref a13])), (a5, .inl (cJ, 6, .inr (.inl g_M_name))), (a6, .inl (cI, 6, .inl g_M_says)), (a7, .inl (cI, 6, .inl g_M_town)), (a8, .inl (cI, 6, .inl g_M_off)), (a9, .inl (cI, 6, .inl g_M_worn)), (a10, .inl (cI, 6, .inl g_M_masterLow)), (a11, .inl (cI, 6, .inl g_M_masterHigh)), (a14, .inl (cB, 1300, .inl g_tp_bytes)), (a1, .inr (5, [.ref a14, .int v_tp_1, .int h3, .int h4, .int h5, .long y6, .int h7]))] := hD
    have hq8 := hp
    refine lv_if_ne (tgt := 43) hx hb dX2_readStone_34 (by decide) (fun c9 => ?_) (fun c9 => ?_)
    · have dc9 : r8.toInt ≠ 0 := fa_ne c9
      refine lv_aload_n hx hb dX2_readStone_43 rfl (lv_at hl 1 rfl) ?_
      refine k_get hC hK hP iX2 0 1 wf_X2_21 rfl (by decide) rfl rfl dX2_readStone_44 ?_
      refine lv_aload_n hx hb dX2_readStone_47 rfl (lv_at hl 1 rfl) ?_
      refine k_get hC hK hP iX2 0 0 wf_X2_12 rfl (by decide) rfl rfl dX2_readStone_48 ?_
      refine k_getN hC hN hK hP iX5 10 5 wf_X2_155 rfl (by decide) rfl rfl dX2_readStone_51 ?_
      refine k_ci (wr := [(a0, .inr (2, [.ref a1, .ref a2, .int v_rd_2, .int v_rd_3, .int v_rd_4, .int v_rd_5, .int v_rd_6, .int v_rd_7])), (a6, .inl (cI, 6, .inl g_M_says)), (a7, .inl (cI, 6, .inl g_M_town)), (a8, .inl (cI, 6, .inl g_M_off)), (a9, .inl (cI, 6, .inl g_M_worn)), (a10, .inl (cI, 6, .inl g_M_masterLow)), (a11, .inl (cI, 6, .inl g_M_masterHigh)), (a14, .inl (cB, 1300, .inl g_tp_bytes)), (a1, .inr (5, [.ref a14, .int v_tp_1, .int h3, .int h4, .int h5, .long y6, .int h7]))]) (k_rV hC hN hZ hS hA hK hP hD (c25_X7_stoneOf l G cI cJ cB cZ a2 a3 a4 a5 a6 a7 a8 a9 a10 a11 a12 a13 y6 v_M_0 v_M_1 v_M_2 v_M_5 g_M_name hv_4 hv_5 hv_6 hv_7 hv_8 hv_9) [1, 2] rfl (by decide +kernel) mi_X7_stoneOf in_X7_stoneOf se_X7_stoneOf wm_X2_159 7 1 rfl rfl rfl hl.1 rfl rfl (Nat.le_of_ble_eq_true rfl) ⟨(Nat.le_of_ble_eq_true rfl), (Nat.le_of_ble_eq_true rfl)⟩ dX2_readStone_54 ⟨(Nat.le_of_ble_eq_true rfl), (Nat.le_of_ble_eq_true rfl)⟩) hP hD hS hA [1, 2] [0, 3, 4, 5, 6, 7, 8, 9, 10] rfl rfl (by decide +kernel) (by decide +kernel) (fun r10 u10 H locs hp hP hD hS => ?_)
      have hp : ((-1) ≤ r10.toInt ∧ r10.toInt ≤ 5) := hp
      have hP : va_P G cl [(a0, .inr (2, [.ref a1, .ref a2, .int v_rd_2, .int v_rd_3, .int v_rd_4, .int v_rd_5, .int v_rd_6, .int v_rd_7])), (a6, .inl (cI, 6, .inl g_M_says)), (a7, .inl (cI, 6, .inl g_M_town)), (a8, .inl (cI, 6, .inl g_M_off)), (a9, .inl (cI, 6, .inl g_M_worn)), (a10, .inl (cI, 6, .inl g_M_masterLow)), (a11, .inl (cI, 6, .inl g_M_masterHigh)), (a14, .inl (cB, 1300, .inl g_tp_bytes)), (a1, .inr (5, [.ref a14, .int v_tp_1, .int h3, .int h4, .int h5, .long y6, .int h7])), (a2, .inr (7, [.int v_M_0, .int v_M_1, .int v_M_2, .ref a3, .ref a4, .int v_M_5, .ref a5, .ref a6, .ref a7, .ref a8, .ref a9, .ref a10, .ref a11, .ref a12, .ref a13])), (a5, .inl (cJ, 6, .inr (.inl g_M_name)))] H := hP
      have hD : va_D A [(a0, .inr (2, [.ref a1, .ref a2, .int v_rd_2, .int v_rd_3, .int v_rd_4, .int v_rd_5, .int v_rd_6, .int v_rd_7])), (a6, .inl (cI, 6, .inl g_M_says)), (a7, .inl (cI, 6, .inl g_M_town)), (a8, .inl (cI, 6, .inl g_M_off)), (a9, .inl (cI, 6, .inl g_M_worn)), (a10, .inl (cI, 6, .inl g_M_masterLow)), (a11, .inl (cI, 6, .inl g_M_masterHigh)), (a14, .inl (cB, 1300, .inl g_tp_bytes)), (a1, .inr (5, [.ref a14, .int v_tp_1, .int h3, .int h4, .int h5, .long y6, .int h7])), (a2, .inr (7, [.int v_M_0, .int v_M_1, .int v_M_2, .ref a3, .ref a4, .int v_M_5, .ref a5, .ref a6, .ref a7, .ref a8, .ref a9, .ref a10, .ref a11, .ref a12, .ref a13])), (a5, .inl (cJ, 6, .inr (.inl g_M_name)))] := hD
      have hq10 := hp
      refine lv_if_lt (tgt := 66) hx hb dX2_readStone_57 (by decide) (fun c11 => ?_) (fun c11 => ?_)
      · have dc11 : r10.toInt < 0 := (fa_lt _ _).mp c11
        refine lv_aload_n hx hb dX2_readStone_66 rfl (lv_at hl 1 rfl) ?_
        refine k_get hC hK hP iX2 0 1 wf_X2_21 rfl (by decide) rfl rfl dX2_readStone_67 ?_
        refine k_getN hC hN hK hP iX7 9 6 wf_X2_163 rfl (by decide) rfl rfl dX2_readStone_70 ?_
        refine lv_iload_n hx hb dX2_readStone_73 rfl (lv_at hl 0 rfl) ?_
        refine lv_aload_n hx hb dX2_readStone_74 rfl (lv_at hl 1 rfl) ?_
        refine k_get hC hK hP iX2 0 0 wf_X2_12 rfl (by decide) rfl rfl dX2_readStone_75 ?_
        refine k_getN hC hN hK hP iX5 8 5 wf_X2_155 rfl (by decide) rfl rfl dX2_readStone_78 ?_
        refine t_last hC hK hP hD hS 10 rfl (by omega) (by omega) dX2_readStone_81 (fun f12 H locs hP hD hS => ?_)
        have hP : va_P G cl [(a0, .inr (2, [.ref a1, .ref a2, .int v_rd_2, .int v_rd_3, .int v_rd_4, .int v_rd_5, .int v_rd_6, .int v_rd_7])), (a6, .inl (cI, 6, .inl g_M_says)), (a7, .inl (cI, 6, .inl g_M_town)), (a8, .inl (cI, 6, .inl g_M_off)), (a9, .inl (cI, 6, .inl g_M_worn)), (a10, .inl (cI, 6, .inl g_M_masterLow)), (a11, .inl (cI, 6, .inl g_M_masterHigh)), (a14, .inl (cB, 1300, .inl g_tp_bytes)), (a1, .inr (5, [.ref a14, .int v_tp_1, .int h3, .int h4, .int h5, .long y6, .int h7])), (a2, .inr (7, [.int v_M_0, .int v_M_1, .int v_M_2, .ref a3, .ref a4, .int v_M_5, .ref a5, .ref a6, .ref a7, .ref a8, .ref a9, .ref a10, .ref a11, .ref a12, .ref a13])), (a5, .inl (cJ, 6, .inr (.inl f12)))] H := hP
        have hD : va_D A [(a0, .inr (2, [.ref a1, .ref a2, .int v_rd_2, .int v_rd_3, .int v_rd_4, .int v_rd_5, .int v_rd_6, .int v_rd_7])), (a6, .inl (cI, 6, .inl g_M_says)), (a7, .inl (cI, 6, .inl g_M_town)), (a8, .inl (cI, 6, .inl g_M_off)), (a9, .inl (cI, 6, .inl g_M_worn)), (a10, .inl (cI, 6, .inl g_M_masterLow)), (a11, .inl (cI, 6, .inl g_M_masterHigh)), (a14, .inl (cB, 1300, .inl g_tp_bytes)), (a1, .inr (5, [.ref a14, .int v_tp_1, .int h3, .int h4, .int h5, .long y6, .int h7])), (a2, .inr (7, [.int v_M_0, .int v_M_1, .int v_M_2, .ref a3, .ref a4, .int v_M_5, .ref a5, .ref a6, .ref a7, .ref a8, .ref a9, .ref a10, .ref a11, .ref a12, .ref a13])), (a5, .inl (cJ, 6, .inr (.inl f12)))] := hD
        refine lv_aload_n hx hb dX2_readStone_82 rfl (lv_at hl 1 rfl) ?_
        refine k_get hC hK hP iX2 0 0 wf_X2_12 rfl (by decide) rfl rfl dX2_readStone_83 ?_
        refine k_cv (wr := [(a0, .inr (2, [.ref a1, .ref a2, .int v_rd_2, .int v_rd_3, .int v_rd_4, .int v_rd_5, .int v_rd_6, .int v_rd_7])), (a6, .inl (cI, 6, .inl g_M_says)), (a7, .inl (cI, 6, .inl g_M_town)), (a8, .inl (cI, 6, .inl g_M_off)), (a9, .inl (cI, 6, .inl g_M_worn)), (a10, .inl (cI, 6, .inl g_M_masterLow)), (a11, .inl (cI, 6, .inl g_M_masterHigh)), (a2, .inr (7, [.int v_M_0, .int v_M_1, .int v_M_2, .ref a3, .ref a4, .int v_M_5, .ref a5, .ref a6, .ref a7, .ref a8, .ref a9, .ref a10, .ref a11, .ref a12, .ref a13])), (a5, .inl (cJ, 6, .inr (.inl f12)))]) (k_rV hC hN hZ hS hA hK hP hD (c20_X5_advance l G cI cJ cB cZ a1 a14 v_tp_1 h3 h4 h5 y6 h7 g_tp_bytes hv_10 hv_11 (by omega) (by omega) hT_g_tp_bytes) [8, 7] rfl (by decide +kernel) mi_X5_advance in_X5_advance se_X5_advance wm_X2_104 5 8 rfl rfl rfl hl.1 rfl rfl (Nat.le_of_ble_eq_true rfl) ⟨(Nat.le_of_ble_eq_true rfl), (Nat.le_of_ble_eq_true rfl)⟩ dX2_readStone_86 ⟨(Nat.le_of_ble_eq_true rfl), (Nat.le_of_ble_eq_true rfl)⟩) hP hD hS hA [8, 7] [0, 1, 2, 3, 4, 5, 6, 9, 10] rfl rfl (by decide +kernel) (by decide +kernel) (fun u13 H locs hp hP hD hS => ?_)
        obtain ⟨h14, h15, h16, y17, h18⟩ := u13
        have hp : (0 ≤ h14.toInt ∧ h14.toInt ≤ 1300 ∧ 0 ≤ h15.toInt ∧ h15.toInt ≤ 1300 ∧ 0 ≤ h16.toInt ∧ h16.toInt ≤ 4) := hp
        have hP : va_P G cl [(a0, .inr (2, [.ref a1, .ref a2, .int v_rd_2, .int v_rd_3, .int v_rd_4, .int v_rd_5, .int v_rd_6, .int v_rd_7])), (a6, .inl (cI, 6, .inl g_M_says)), (a7, .inl (cI, 6, .inl g_M_town)), (a8, .inl (cI, 6, .inl g_M_off)), (a9, .inl (cI, 6, .inl g_M_worn)), (a10, .inl (cI, 6, .inl g_M_masterLow)), (a11, .inl (cI, 6, .inl g_M_masterHigh)), (a2, .inr (7, [.int v_M_0, .int v_M_1, .int v_M_2, .ref a3, .ref a4, .int v_M_5, .ref a5, .ref a6, .ref a7, .ref a8, .ref a9, .ref a10, .ref a11, .ref a12, .ref a13])), (a5, .inl (cJ, 6, .inr (.inl f12))), (a1, .inr (5, [.ref a14, .int v_tp_1, .int h14, .int h15, .int h16, .long y17, .int h18])), (a14, .inl (cB, 1300, .inl g_tp_bytes))] H := hP
        have hD : va_D A [(a0, .inr (2, [.ref a1, .ref a2, .int v_rd_2, .int v_rd_3, .int v_rd_4, .int v_rd_5, .int v_rd_6, .int v_rd_7])), (a6, .inl (cI, 6, .inl g_M_says)), (a7, .inl (cI, 6, .inl g_M_town)), (a8, .inl (cI, 6, .inl g_M_off)), (a9, .inl (cI, 6, .inl g_M_worn)), (a10, .inl (cI, 6, .inl g_M_masterLow)), (a11, .inl (cI, 6, .inl g_M_masterHigh)), (a2, .inr (7, [.int v_M_0, .int v_M_1, .int v_M_2, .ref a3, .ref a4, .int v_M_5, .ref a5, .ref a6, .ref a7, .ref a8, .ref a9, .ref a10, .ref a11, .ref a12, .ref a13])), (a5, .inl (cJ, 6, .inr (.inl f12))), (a1, .inr (5, [.ref a14, .int v_tp_1, .int h14, .int h15, .int h16, .long y17, .int h18])), (a14, .inl (cB, 1300, .inl g_tp_bytes))] := hD
        have hq13 := hp
        refine lv_aload_n hx hb dX2_readStone_89 rfl (lv_at hl 1 rfl) ?_
        refine lv_ldc2 (v := 1935767923) hx hb hown (hts _ kl_X2_167) dX2_readStone_90 ?_
        refine k_ci (wr := [(a6, .inl (cI, 6, .inl g_M_says)), (a7, .inl (cI, 6, .inl g_M_town)), (a8, .inl (cI, 6, .inl g_M_off)), (a9, .inl (cI, 6, .inl g_M_worn)), (a10, .inl (cI, 6, .inl g_M_masterLow)), (a11, .inl (cI, 6, .inl g_M_masterHigh)), (a2, .inr (7, [.int v_M_0, .int v_M_1, .int v_M_2, .ref a3, .ref a4, .int v_M_5, .ref a5, .ref a6, .ref a7, .ref a8, .ref a9, .ref a10, .ref a11, .ref a12, .ref a13])), (a5, .inl (cJ, 6, .inr (.inl f12)))]) (k_rV hC hN hZ hS hA hK hP hD (c49_X2_takeWord l G cI cJ cB cZ a0 a1 a2 a14 1935767923 v_rd_2 v_rd_3 v_rd_4 v_rd_5 v_rd_6 v_rd_7 v_tp_1 h14 h15 h16 y17 h18 g_tp_bytes hv_0 hv_1 hv_2 hv_3 hv_10 hv_11 (by omega) (by omega) hT_g_tp_bytes) [0, 9, 10] rfl (by decide +kernel) mi_X2_takeWord in_X2_takeWord se_X2_takeWord wm_X2_113 2 0 rfl rfl rfl hl.1 rfl rfl (Nat.le_of_ble_eq_true rfl) ⟨(Nat.le_of_ble_eq_true rfl), (Nat.le_of_ble_eq_true rfl)⟩ dX2_readStone_93 ⟨(Nat.le_of_ble_eq_true rfl), (Nat.le_of_ble_eq_true rfl)⟩) hP hD hS hA [0, 9, 10] [1, 2, 3, 4, 5, 6, 7, 8] rfl rfl (by decide +kernel) (by decide +kernel) (fun r19 u19 H locs hp hP hD hS => ?_)
        obtain ⟨h20, h21, h22, h23, h24, y25, h26⟩ := u19
        have hp : (0 ≤ r19.toInt ∧ r19.toInt ≤ 1 ∧ 0 ≤ h22.toInt ∧ h22.toInt ≤ 1300) := hp
        have hP : va_P G cl [(a6, .inl (cI, 6, .inl g_M_says)), (a7, .inl (cI, 6, .inl g_M_town)), (a8, .inl (cI, 6, .inl g_M_off)), (a9, .inl (cI, 6, .inl g_M_worn)), (a10, .inl (cI, 6, .inl g_M_masterLow)), (a11, .inl (cI, 6, .inl g_M_masterHigh)), (a2, .inr (7, [.int v_M_0, .int v_M_1, .int v_M_2, .ref a3, .ref a4, .int v_M_5, .ref a5, .ref a6, .ref a7, .ref a8, .ref a9, .ref a10, .ref a11, .ref a12, .ref a13])), (a5, .inl (cJ, 6, .inr (.inl f12))), (a0, .inr (2, [.ref a1, .ref a2, .int v_rd_2, .int v_rd_3, .int v_rd_4, .int v_rd_5, .int h20, .int h21])), (a1, .inr (5, [.ref a14, .int v_tp_1, .int h22, .int h23, .int h24, .long y25, .int h26])), (a14, .inl (cB, 1300, .inl g_tp_bytes))] H := hP
        have hD : va_D A [(a6, .inl (cI, 6, .inl g_M_says)), (a7, .inl (cI, 6, .inl g_M_town)), (a8, .inl (cI, 6, .inl g_M_off)), (a9, .inl (cI, 6, .inl g_M_worn)), (a10, .inl (cI, 6, .inl g_M_masterLow)), (a11, .inl (cI, 6, .inl g_M_masterHigh)), (a2, .inr (7, [.int v_M_0, .int v_M_1, .int v_M_2, .ref a3, .ref a4, .int v_M_5, .ref a5, .ref a6, .ref a7, .ref a8, .ref a9, .ref a10, .ref a11, .ref a12, .ref a13])), (a5, .inl (cJ, 6, .inr (.inl f12))), (a0, .inr (2, [.ref a1, .ref a2, .int v_rd_2, .int v_rd_3, .int v_rd_4, .int v_rd_5, .int h20, .int h21])), (a1, .inr (5, [.ref a14, .int v_tp_1, .int h22, .int h23, .int h24, .long y25, .int h26])), (a14, .inl (cB, 1300, .inl g_tp_bytes))] := hD
        have hq19 := hp
        refine lv_if_eq (tgt := 109) hx hb dX2_readStone_96 (by decide) (fun c27 => ?_) (fun c27 => ?_)
        · have dc27 : r19.toInt = 0 := (fa_eq _ _).mp c27
          refine lv_iconst (v := 0) hx hb dX2_readStone_109 (by decide) ?_
          have l_l28 : (0 : Int32).toInt = 0 := rfl
          rw [← hQm]
          exact k_zret hC hr hlk hK hP hD hS (v_rd_2, h20, h21, v_M_5, h22, h23, h24, y25, h26, f12, g_M_says, g_M_town, g_M_off, g_M_worn, g_M_masterLow, g_M_masterHigh) [8, 6, 9, 10, 7, 0, 1, 2, 3, 4, 5] rfl (by decide +kernel) rfl ⟨(show 0 ≤ (0 : Int32).toInt ∧ (0 : Int32).toInt ≤ 1 ∧ 0 ≤ v_M_5.toInt ∧ v_M_5.toInt ≤ 6 ∧ 0 ≤ h22.toInt ∧ h22.toInt ≤ 1300 from by omega), hT_g_M_says, hT_g_M_off⟩ (Nat.le_of_ble_eq_true rfl) (Nat.le_of_ble_eq_true rfl) dX2_readStone_110
        · have dc27 : r19.toInt ≠ 0 := fa_ne c27
          refine lv_aload_n hx hb dX2_readStone_99 rfl (lv_at hl 1 rfl) ?_
          refine lv_iconst (v := 1) hx hb dX2_readStone_100 (by decide) ?_
          refine lv_bipush (v := 9) hx hb dX2_readStone_101 (by decide) ?_
          refine k_ci (wr := [(a6, .inl (cI, 6, .inl g_M_says)), (a7, .inl (cI, 6, .inl g_M_town)), (a8, .inl (cI, 6, .inl g_M_off)), (a9, .inl (cI, 6, .inl g_M_worn)), (a10, .inl (cI, 6, .inl g_M_masterLow)), (a11, .inl (cI, 6, .inl g_M_masterHigh)), (a2, .inr (7, [.int v_M_0, .int v_M_1, .int v_M_2, .ref a3, .ref a4, .int v_M_5, .ref a5, .ref a6, .ref a7, .ref a8, .ref a9, .ref a10, .ref a11, .ref a12, .ref a13])), (a5, .inl (cJ, 6, .inr (.inl f12)))]) (k_rV hC hN hZ hS hA hK hP hD (c61_X2_takeNumber l G cI cJ cB cZ a0 a1 a2 a14 v_rd_2 v_rd_3 v_rd_4 v_rd_5 h20 h21 v_tp_1 h22 h23 h24 y25 h26 g_tp_bytes hv_0 hv_1 hv_2 hv_3 hv_10 hv_11 (by omega) (by omega) hT_g_tp_bytes) [8, 9, 10] rfl (by decide +kernel) mi_X2_takeNumber in_X2_takeNumber se_X2_takeNumber wm_X2_107 2 8 rfl rfl rfl hl.1 rfl rfl (Nat.le_of_ble_eq_true rfl) ⟨(Nat.le_of_ble_eq_true rfl), (Nat.le_of_ble_eq_true rfl)⟩ dX2_readStone_103 ⟨(Nat.le_of_ble_eq_true rfl), (Nat.le_of_ble_eq_true rfl)⟩) hP hD hS hA [8, 9, 10] [0, 1, 2, 3, 4, 5, 6, 7] rfl rfl (by decide +kernel) (by decide +kernel) (fun r29 u29 H locs hp hP hD hS => ?_)
          obtain ⟨h30, h31, h32, h33, h34, h35, y36, h37⟩ := u29
          have hP : va_P G cl [(a6, .inl (cI, 6, .inl g_M_says)), (a7, .inl (cI, 6, .inl g_M_town)), (a8, .inl (cI, 6, .inl g_M_off)), (a9, .inl (cI, 6, .inl g_M_worn)), (a10, .inl (cI, 6, .inl g_M_masterLow)), (a11, .inl (cI, 6, .inl g_M_masterHigh)), (a2, .inr (7, [.int v_M_0, .int v_M_1, .int v_M_2, .ref a3, .ref a4, .int v_M_5, .ref a5, .ref a6, .ref a7, .ref a8, .ref a9, .ref a10, .ref a11, .ref a12, .ref a13])), (a5, .inl (cJ, 6, .inr (.inl f12))), (a0, .inr (2, [.ref a1, .ref a2, .int h30, .int v_rd_3, .int v_rd_4, .int v_rd_5, .int h31, .int h32])), (a1, .inr (5, [.ref a14, .int v_tp_1, .int h33, .int h34, .int h35, .long y36, .int h37])), (a14, .inl (cB, 1300, .inl g_tp_bytes))] H := hP
          have hD : va_D A [(a6, .inl (cI, 6, .inl g_M_says)), (a7, .inl (cI, 6, .inl g_M_town)), (a8, .inl (cI, 6, .inl g_M_off)), (a9, .inl (cI, 6, .inl g_M_worn)), (a10, .inl (cI, 6, .inl g_M_masterLow)), (a11, .inl (cI, 6, .inl g_M_masterHigh)), (a2, .inr (7, [.int v_M_0, .int v_M_1, .int v_M_2, .ref a3, .ref a4, .int v_M_5, .ref a5, .ref a6, .ref a7, .ref a8, .ref a9, .ref a10, .ref a11, .ref a12, .ref a13])), (a5, .inl (cJ, 6, .inr (.inl f12))), (a0, .inr (2, [.ref a1, .ref a2, .int h30, .int v_rd_3, .int v_rd_4, .int v_rd_5, .int h31, .int h32])), (a1, .inr (5, [.ref a14, .int v_tp_1, .int h33, .int h34, .int h35, .long y36, .int h37])), (a14, .inl (cB, 1300, .inl g_tp_bytes))] := hD
          rcases (show (r29 = 0 ∧ (0 ≤ h33.toInt ∧ h33.toInt ≤ 1300)) ∨ (r29 = 1 ∧ (1 ≤ h30.toInt ∧ h30.toInt ≤ 9 ∧ 0 ≤ h33.toInt ∧ h33.toInt ≤ 1300 ∧ 0 ≤ h34.toInt ∧ h34.toInt ≤ 1300 ∧ 0 ≤ h35.toInt ∧ h35.toInt ≤ 4)) from hp) with ⟨rfl, hq29⟩ | ⟨rfl, hq29⟩
          · clear hp
            have l_29 : (0 : Int32).toInt = 0 := rfl
            refine lv_if_ne (tgt := 111) hx hb dX2_readStone_106 (by decide) (fun c_ => absurd (by decide +kernel) c_) (fun _ => ?_)
            refine lv_iconst (v := 0) hx hb dX2_readStone_109 (by decide) ?_
            have l_l38 : (0 : Int32).toInt = 0 := rfl
            rw [← hQm]
            exact k_zret hC hr hlk hK hP hD hS (h30, h31, h32, v_M_5, h33, h34, h35, y36, h37, f12, g_M_says, g_M_town, g_M_off, g_M_worn, g_M_masterLow, g_M_masterHigh) [8, 6, 9, 10, 7, 0, 1, 2, 3, 4, 5] rfl (by decide +kernel) rfl ⟨(show 0 ≤ (0 : Int32).toInt ∧ (0 : Int32).toInt ≤ 1 ∧ 0 ≤ v_M_5.toInt ∧ v_M_5.toInt ≤ 6 ∧ 0 ≤ h33.toInt ∧ h33.toInt ≤ 1300 from by omega), hT_g_M_says, hT_g_M_off⟩ (Nat.le_of_ble_eq_true rfl) (Nat.le_of_ble_eq_true rfl) dX2_readStone_110
          · clear hp
            have l_29 : (1 : Int32).toInt = 1 := rfl
            refine lv_if_ne (tgt := 111) hx hb dX2_readStone_106 (by decide) (fun _ => ?_) (fun c_ => absurd c_ (by decide +kernel))
            refine lv_aload_n hx hb dX2_readStone_111 rfl (lv_at hl 1 rfl) ?_
            refine k_get hC hK hP iX2 8 1 wf_X2_21 rfl (by decide) rfl rfl dX2_readStone_112 ?_
            refine k_getN hC hN hK hP iX7 6 7 wf_X2_169 rfl (by decide) rfl rfl dX2_readStone_115 ?_
            refine lv_iload_n hx hb dX2_readStone_118 rfl (lv_at hl 0 rfl) ?_
            refine lv_aload_n hx hb dX2_readStone_119 rfl (lv_at hl 1 rfl) ?_
            refine k_get hC hK hP iX2 8 2 wf_X2_25 rfl (by decide) rfl rfl dX2_readStone_120 ?_
            refine t_iast hC hK hP hD hS 0 rfl (by omega) (by omega) hT_g_M_says (by omega) dX2_readStone_123 (fun f39 H locs hT_f39 hP hD hS => ?_)
            have hP : va_P G cl [(a6, .inl (cI, 6, .inl f39)), (a7, .inl (cI, 6, .inl g_M_town)), (a8, .inl (cI, 6, .inl g_M_off)), (a9, .inl (cI, 6, .inl g_M_worn)), (a10, .inl (cI, 6, .inl g_M_masterLow)), (a11, .inl (cI, 6, .inl g_M_masterHigh)), (a2, .inr (7, [.int v_M_0, .int v_M_1, .int v_M_2, .ref a3, .ref a4, .int v_M_5, .ref a5, .ref a6, .ref a7, .ref a8, .ref a9, .ref a10, .ref a11, .ref a12, .ref a13])), (a5, .inl (cJ, 6, .inr (.inl f12))), (a0, .inr (2, [.ref a1, .ref a2, .int h30, .int v_rd_3, .int v_rd_4, .int v_rd_5, .int h31, .int h32])), (a1, .inr (5, [.ref a14, .int v_tp_1, .int h33, .int h34, .int h35, .long y36, .int h37])), (a14, .inl (cB, 1300, .inl g_tp_bytes))] H := hP
            have hD : va_D A [(a6, .inl (cI, 6, .inl f39)), (a7, .inl (cI, 6, .inl g_M_town)), (a8, .inl (cI, 6, .inl g_M_off)), (a9, .inl (cI, 6, .inl g_M_worn)), (a10, .inl (cI, 6, .inl g_M_masterLow)), (a11, .inl (cI, 6, .inl g_M_masterHigh)), (a2, .inr (7, [.int v_M_0, .int v_M_1, .int v_M_2, .ref a3, .ref a4, .int v_M_5, .ref a5, .ref a6, .ref a7, .ref a8, .ref a9, .ref a10, .ref a11, .ref a12, .ref a13])), (a5, .inl (cJ, 6, .inr (.inl f12))), (a0, .inr (2, [.ref a1, .ref a2, .int h30, .int v_rd_3, .int v_rd_4, .int v_rd_5, .int h31, .int h32])), (a1, .inr (5, [.ref a14, .int v_tp_1, .int h33, .int h34, .int h35, .long y36, .int h37])), (a14, .inl (cB, 1300, .inl g_tp_bytes))] := hD
            refine lv_aload_n hx hb dX2_readStone_124 rfl (lv_at hl 1 rfl) ?_
            refine lv_ldc2 (v := 26990) hx hb hown (hts _ kl_X2_172) dX2_readStone_125 ?_
            refine k_ci (wr := [(a6, .inl (cI, 6, .inl f39)), (a7, .inl (cI, 6, .inl g_M_town)), (a8, .inl (cI, 6, .inl g_M_off)), (a9, .inl (cI, 6, .inl g_M_worn)), (a10, .inl (cI, 6, .inl g_M_masterLow)), (a11, .inl (cI, 6, .inl g_M_masterHigh)), (a2, .inr (7, [.int v_M_0, .int v_M_1, .int v_M_2, .ref a3, .ref a4, .int v_M_5, .ref a5, .ref a6, .ref a7, .ref a8, .ref a9, .ref a10, .ref a11, .ref a12, .ref a13])), (a5, .inl (cJ, 6, .inr (.inl f12)))]) (k_rV hC hN hZ hS hA hK hP hD (c49_X2_takeWord l G cI cJ cB cZ a0 a1 a2 a14 26990 h30 v_rd_3 v_rd_4 v_rd_5 h31 h32 v_tp_1 h33 h34 h35 y36 h37 g_tp_bytes hv_0 hv_1 hv_2 hv_3 hv_10 hv_11 (by omega) (by omega) hT_g_tp_bytes) [8, 9, 10] rfl (by decide +kernel) mi_X2_takeWord in_X2_takeWord se_X2_takeWord wm_X2_113 2 8 rfl rfl rfl hl.1 rfl rfl (Nat.le_of_ble_eq_true rfl) ⟨(Nat.le_of_ble_eq_true rfl), (Nat.le_of_ble_eq_true rfl)⟩ dX2_readStone_128 ⟨(Nat.le_of_ble_eq_true rfl), (Nat.le_of_ble_eq_true rfl)⟩) hP hD hS hA [8, 9, 10] [0, 1, 2, 3, 4, 5, 6, 7] rfl rfl (by decide +kernel) (by decide +kernel) (fun r40 u40 H locs hp hP hD hS => ?_)
            obtain ⟨h41, h42, h43, h44, h45, y46, h47⟩ := u40
            have hp : (0 ≤ r40.toInt ∧ r40.toInt ≤ 1 ∧ 0 ≤ h43.toInt ∧ h43.toInt ≤ 1300) := hp
            have hP : va_P G cl [(a6, .inl (cI, 6, .inl f39)), (a7, .inl (cI, 6, .inl g_M_town)), (a8, .inl (cI, 6, .inl g_M_off)), (a9, .inl (cI, 6, .inl g_M_worn)), (a10, .inl (cI, 6, .inl g_M_masterLow)), (a11, .inl (cI, 6, .inl g_M_masterHigh)), (a2, .inr (7, [.int v_M_0, .int v_M_1, .int v_M_2, .ref a3, .ref a4, .int v_M_5, .ref a5, .ref a6, .ref a7, .ref a8, .ref a9, .ref a10, .ref a11, .ref a12, .ref a13])), (a5, .inl (cJ, 6, .inr (.inl f12))), (a0, .inr (2, [.ref a1, .ref a2, .int h30, .int v_rd_3, .int v_rd_4, .int v_rd_5, .int h41, .int h42])), (a1, .inr (5, [.ref a14, .int v_tp_1, .int h43, .int h44, .int h45, .long y46, .int h47])), (a14, .inl (cB, 1300, .inl g_tp_bytes))] H := hP
            have hD : va_D A [(a6, .inl (cI, 6, .inl f39)), (a7, .inl (cI, 6, .inl g_M_town)), (a8, .inl (cI, 6, .inl g_M_off)), (a9, .inl (cI, 6, .inl g_M_worn)), (a10, .inl (cI, 6, .inl g_M_masterLow)), (a11, .inl (cI, 6, .inl g_M_masterHigh)), (a2, .inr (7, [.int v_M_0, .int v_M_1, .int v_M_2, .ref a3, .ref a4, .int v_M_5, .ref a5, .ref a6, .ref a7, .ref a8, .ref a9, .ref a10, .ref a11, .ref a12, .ref a13])), (a5, .inl (cJ, 6, .inr (.inl f12))), (a0, .inr (2, [.ref a1, .ref a2, .int h30, .int v_rd_3, .int v_rd_4, .int v_rd_5, .int h41, .int h42])), (a1, .inr (5, [.ref a14, .int v_tp_1, .int h43, .int h44, .int h45, .long y46, .int h47])), (a14, .inl (cB, 1300, .inl g_tp_bytes))] := hD
            have hq40 := hp
            refine lv_if_eq (tgt := 143) hx hb dX2_readStone_131 (by decide) (fun c48 => ?_) (fun c48 => ?_)
            · have dc48 : r40.toInt = 0 := (fa_eq _ _).mp c48
              refine lv_iconst (v := 0) hx hb dX2_readStone_143 (by decide) ?_
              have l_l49 : (0 : Int32).toInt = 0 := rfl
              rw [← hQm]
              exact k_zret hC hr hlk hK hP hD hS (h30, h41, h42, v_M_5, h43, h44, h45, y46, h47, f12, f39, g_M_town, g_M_off, g_M_worn, g_M_masterLow, g_M_masterHigh) [8, 6, 9, 10, 7, 0, 1, 2, 3, 4, 5] rfl (by decide +kernel) rfl ⟨(show 0 ≤ (0 : Int32).toInt ∧ (0 : Int32).toInt ≤ 1 ∧ 0 ≤ v_M_5.toInt ∧ v_M_5.toInt ≤ 6 ∧ 0 ≤ h43.toInt ∧ h43.toInt ≤ 1300 from by omega), hT_f39, hT_g_M_off⟩ (Nat.le_of_ble_eq_true rfl) (Nat.le_of_ble_eq_true rfl) dX2_readStone_144
            · have dc48 : r40.toInt ≠ 0 := fa_ne c48
              refine lv_aload_n hx hb dX2_readStone_134 rfl (lv_at hl 1 rfl) ?_
              refine lv_iconst (v := 0) hx hb dX2_readStone_135 (by decide) ?_
              refine lv_iconst (v := 1) hx hb dX2_readStone_136 (by decide) ?_
              refine k_ci (wr := [(a6, .inl (cI, 6, .inl f39)), (a7, .inl (cI, 6, .inl g_M_town)), (a8, .inl (cI, 6, .inl g_M_off)), (a9, .inl (cI, 6, .inl g_M_worn)), (a10, .inl (cI, 6, .inl g_M_masterLow)), (a11, .inl (cI, 6, .inl g_M_masterHigh)), (a2, .inr (7, [.int v_M_0, .int v_M_1, .int v_M_2, .ref a3, .ref a4, .int v_M_5, .ref a5, .ref a6, .ref a7, .ref a8, .ref a9, .ref a10, .ref a11, .ref a12, .ref a13])), (a5, .inl (cJ, 6, .inr (.inl f12)))]) (k_rV hC hN hZ hS hA hK hP hD (c56_X2_takeNumber l G cI cJ cB cZ a0 a1 a2 a14 h30 v_rd_3 v_rd_4 v_rd_5 h41 h42 v_tp_1 h43 h44 h45 y46 h47 g_tp_bytes hv_0 hv_1 hv_2 hv_3 hv_10 hv_11 (by omega) (by omega) hT_g_tp_bytes) [8, 9, 10] rfl (by decide +kernel) mi_X2_takeNumber in_X2_takeNumber se_X2_takeNumber wm_X2_107 2 8 rfl rfl rfl hl.1 rfl rfl (Nat.le_of_ble_eq_true rfl) ⟨(Nat.le_of_ble_eq_true rfl), (Nat.le_of_ble_eq_true rfl)⟩ dX2_readStone_137 ⟨(Nat.le_of_ble_eq_true rfl), (Nat.le_of_ble_eq_true rfl)⟩) hP hD hS hA [8, 9, 10] [0, 1, 2, 3, 4, 5, 6, 7] rfl rfl (by decide +kernel) (by decide +kernel) (fun r50 u50 H locs hp hP hD hS => ?_)
              obtain ⟨h51, h52, h53, h54, h55, h56, y57, h58⟩ := u50
              have hP : va_P G cl [(a6, .inl (cI, 6, .inl f39)), (a7, .inl (cI, 6, .inl g_M_town)), (a8, .inl (cI, 6, .inl g_M_off)), (a9, .inl (cI, 6, .inl g_M_worn)), (a10, .inl (cI, 6, .inl g_M_masterLow)), (a11, .inl (cI, 6, .inl g_M_masterHigh)), (a2, .inr (7, [.int v_M_0, .int v_M_1, .int v_M_2, .ref a3, .ref a4, .int v_M_5, .ref a5, .ref a6, .ref a7, .ref a8, .ref a9, .ref a10, .ref a11, .ref a12, .ref a13])), (a5, .inl (cJ, 6, .inr (.inl f12))), (a0, .inr (2, [.ref a1, .ref a2, .int h51, .int v_rd_3, .int v_rd_4, .int v_rd_5, .int h52, .int h53])), (a1, .inr (5, [.ref a14, .int v_tp_1, .int h54, .int h55, .int h56, .long y57, .int h58])), (a14, .inl (cB, 1300, .inl g_tp_bytes))] H := hP
              have hD : va_D A [(a6, .inl (cI, 6, .inl f39)), (a7, .inl (cI, 6, .inl g_M_town)), (a8, .inl (cI, 6, .inl g_M_off)), (a9, .inl (cI, 6, .inl g_M_worn)), (a10, .inl (cI, 6, .inl g_M_masterLow)), (a11, .inl (cI, 6, .inl g_M_masterHigh)), (a2, .inr (7, [.int v_M_0, .int v_M_1, .int v_M_2, .ref a3, .ref a4, .int v_M_5, .ref a5, .ref a6, .ref a7, .ref a8, .ref a9, .ref a10, .ref a11, .ref a12, .ref a13])), (a5, .inl (cJ, 6, .inr (.inl f12))), (a0, .inr (2, [.ref a1, .ref a2, .int h51, .int v_rd_3, .int v_rd_4, .int v_rd_5, .int h52, .int h53])), (a1, .inr (5, [.ref a14, .int v_tp_1, .int h54, .int h55, .int h56, .long y57, .int h58])), (a14, .inl (cB, 1300, .inl g_tp_bytes))] := hD
              rcases (show (r50 = 0 ∧ (0 ≤ h54.toInt ∧ h54.toInt ≤ 1300)) ∨ (r50 = 1 ∧ (0 ≤ h51.toInt ∧ h51.toInt ≤ 1 ∧ 0 ≤ h54.toInt ∧ h54.toInt ≤ 1300 ∧ 0 ≤ h55.toInt ∧ h55.toInt ≤ 1300 ∧ 0 ≤ h56.toInt ∧ h56.toInt ≤ 4)) from hp) with ⟨rfl, hq50⟩ | ⟨rfl, hq50⟩
              · clear hp
                have l_50 : (0 : Int32).toInt = 0 := rfl
                refine lv_if_ne (tgt := 145) hx hb dX2_readStone_140 (by decide) (fun c_ => absurd (by decide +kernel) c_) (fun _ => ?_)
                refine lv_iconst (v := 0) hx hb dX2_readStone_143 (by decide) ?_
                have l_l59 : (0 : Int32).toInt = 0 := rfl
                rw [← hQm]
                exact k_zret hC hr hlk hK hP hD hS (h51, h52, h53, v_M_5, h54, h55, h56, y57, h58, f12, f39, g_M_town, g_M_off, g_M_worn, g_M_masterLow, g_M_masterHigh) [8, 6, 9, 10, 7, 0, 1, 2, 3, 4, 5] rfl (by decide +kernel) rfl ⟨(show 0 ≤ (0 : Int32).toInt ∧ (0 : Int32).toInt ≤ 1 ∧ 0 ≤ v_M_5.toInt ∧ v_M_5.toInt ≤ 6 ∧ 0 ≤ h54.toInt ∧ h54.toInt ≤ 1300 from by omega), hT_f39, hT_g_M_off⟩ (Nat.le_of_ble_eq_true rfl) (Nat.le_of_ble_eq_true rfl) dX2_readStone_144
              · clear hp
                have l_50 : (1 : Int32).toInt = 1 := rfl
                refine lv_if_ne (tgt := 145) hx hb dX2_readStone_140 (by decide) (fun _ => ?_) (fun c_ => absurd c_ (by decide +kernel))
                refine lv_aload_n hx hb dX2_readStone_145 rfl (lv_at hl 1 rfl) ?_
                refine k_get hC hK hP iX2 8 1 wf_X2_21 rfl (by decide) rfl rfl dX2_readStone_146 ?_
                refine k_getN hC hN hK hP iX7 6 8 wf_X2_174 rfl (by decide) rfl rfl dX2_readStone_149 ?_
                refine lv_iload_n hx hb dX2_readStone_152 rfl (lv_at hl 0 rfl) ?_
                refine lv_aload_n hx hb dX2_readStone_153 rfl (lv_at hl 1 rfl) ?_
                refine k_get hC hK hP iX2 8 2 wf_X2_25 rfl (by decide) rfl rfl dX2_readStone_154 ?_
                refine t_iast hC hK hP hD hS 1 rfl (by omega) (by omega) (TA.all _) ⟨i_lo _, i_hi _⟩ dX2_readStone_157 (fun f60 H locs hT_f60 hP hD hS => ?_)
                have hP : va_P G cl [(a6, .inl (cI, 6, .inl f39)), (a7, .inl (cI, 6, .inl f60)), (a8, .inl (cI, 6, .inl g_M_off)), (a9, .inl (cI, 6, .inl g_M_worn)), (a10, .inl (cI, 6, .inl g_M_masterLow)), (a11, .inl (cI, 6, .inl g_M_masterHigh)), (a2, .inr (7, [.int v_M_0, .int v_M_1, .int v_M_2, .ref a3, .ref a4, .int v_M_5, .ref a5, .ref a6, .ref a7, .ref a8, .ref a9, .ref a10, .ref a11, .ref a12, .ref a13])), (a5, .inl (cJ, 6, .inr (.inl f12))), (a0, .inr (2, [.ref a1, .ref a2, .int h51, .int v_rd_3, .int v_rd_4, .int v_rd_5, .int h52, .int h53])), (a1, .inr (5, [.ref a14, .int v_tp_1, .int h54, .int h55, .int h56, .long y57, .int h58])), (a14, .inl (cB, 1300, .inl g_tp_bytes))] H := hP
                have hD : va_D A [(a6, .inl (cI, 6, .inl f39)), (a7, .inl (cI, 6, .inl f60)), (a8, .inl (cI, 6, .inl g_M_off)), (a9, .inl (cI, 6, .inl g_M_worn)), (a10, .inl (cI, 6, .inl g_M_masterLow)), (a11, .inl (cI, 6, .inl g_M_masterHigh)), (a2, .inr (7, [.int v_M_0, .int v_M_1, .int v_M_2, .ref a3, .ref a4, .int v_M_5, .ref a5, .ref a6, .ref a7, .ref a8, .ref a9, .ref a10, .ref a11, .ref a12, .ref a13])), (a5, .inl (cJ, 6, .inr (.inl f12))), (a0, .inr (2, [.ref a1, .ref a2, .int h51, .int v_rd_3, .int v_rd_4, .int v_rd_5, .int h52, .int h53])), (a1, .inr (5, [.ref a14, .int v_tp_1, .int h54, .int h55, .int h56, .long y57, .int h58])), (a14, .inl (cB, 1300, .inl g_tp_bytes))] := hD
                refine lv_aload_n hx hb dX2_readStone_158 rfl (lv_at hl 1 rfl) ?_
                refine lv_ldc2 (v := 7300710) hx hb hown (hts _ kl_X2_177) dX2_readStone_159 ?_
                refine k_ci (wr := [(a6, .inl (cI, 6, .inl f39)), (a7, .inl (cI, 6, .inl f60)), (a8, .inl (cI, 6, .inl g_M_off)), (a9, .inl (cI, 6, .inl g_M_worn)), (a10, .inl (cI, 6, .inl g_M_masterLow)), (a11, .inl (cI, 6, .inl g_M_masterHigh)), (a2, .inr (7, [.int v_M_0, .int v_M_1, .int v_M_2, .ref a3, .ref a4, .int v_M_5, .ref a5, .ref a6, .ref a7, .ref a8, .ref a9, .ref a10, .ref a11, .ref a12, .ref a13])), (a5, .inl (cJ, 6, .inr (.inl f12)))]) (k_rV hC hN hZ hS hA hK hP hD (c49_X2_takeWord l G cI cJ cB cZ a0 a1 a2 a14 7300710 h51 v_rd_3 v_rd_4 v_rd_5 h52 h53 v_tp_1 h54 h55 h56 y57 h58 g_tp_bytes hv_0 hv_1 hv_2 hv_3 hv_10 hv_11 (by omega) (by omega) hT_g_tp_bytes) [8, 9, 10] rfl (by decide +kernel) mi_X2_takeWord in_X2_takeWord se_X2_takeWord wm_X2_113 2 8 rfl rfl rfl hl.1 rfl rfl (Nat.le_of_ble_eq_true rfl) ⟨(Nat.le_of_ble_eq_true rfl), (Nat.le_of_ble_eq_true rfl)⟩ dX2_readStone_162 ⟨(Nat.le_of_ble_eq_true rfl), (Nat.le_of_ble_eq_true rfl)⟩) hP hD hS hA [8, 9, 10] [0, 1, 2, 3, 4, 5, 6, 7] rfl rfl (by decide +kernel) (by decide +kernel) (fun r61 u61 H locs hp hP hD hS => ?_)
                obtain ⟨h62, h63, h64, h65, h66, y67, h68⟩ := u61
                have hp : (0 ≤ r61.toInt ∧ r61.toInt ≤ 1 ∧ 0 ≤ h64.toInt ∧ h64.toInt ≤ 1300) := hp
                have hP : va_P G cl [(a6, .inl (cI, 6, .inl f39)), (a7, .inl (cI, 6, .inl f60)), (a8, .inl (cI, 6, .inl g_M_off)), (a9, .inl (cI, 6, .inl g_M_worn)), (a10, .inl (cI, 6, .inl g_M_masterLow)), (a11, .inl (cI, 6, .inl g_M_masterHigh)), (a2, .inr (7, [.int v_M_0, .int v_M_1, .int v_M_2, .ref a3, .ref a4, .int v_M_5, .ref a5, .ref a6, .ref a7, .ref a8, .ref a9, .ref a10, .ref a11, .ref a12, .ref a13])), (a5, .inl (cJ, 6, .inr (.inl f12))), (a0, .inr (2, [.ref a1, .ref a2, .int h51, .int v_rd_3, .int v_rd_4, .int v_rd_5, .int h62, .int h63])), (a1, .inr (5, [.ref a14, .int v_tp_1, .int h64, .int h65, .int h66, .long y67, .int h68])), (a14, .inl (cB, 1300, .inl g_tp_bytes))] H := hP
                have hD : va_D A [(a6, .inl (cI, 6, .inl f39)), (a7, .inl (cI, 6, .inl f60)), (a8, .inl (cI, 6, .inl g_M_off)), (a9, .inl (cI, 6, .inl g_M_worn)), (a10, .inl (cI, 6, .inl g_M_masterLow)), (a11, .inl (cI, 6, .inl g_M_masterHigh)), (a2, .inr (7, [.int v_M_0, .int v_M_1, .int v_M_2, .ref a3, .ref a4, .int v_M_5, .ref a5, .ref a6, .ref a7, .ref a8, .ref a9, .ref a10, .ref a11, .ref a12, .ref a13])), (a5, .inl (cJ, 6, .inr (.inl f12))), (a0, .inr (2, [.ref a1, .ref a2, .int h51, .int v_rd_3, .int v_rd_4, .int v_rd_5, .int h62, .int h63])), (a1, .inr (5, [.ref a14, .int v_tp_1, .int h64, .int h65, .int h66, .long y67, .int h68])), (a14, .inl (cB, 1300, .inl g_tp_bytes))] := hD
                have hq61 := hp
                refine lv_if_eq (tgt := 177) hx hb dX2_readStone_165 (by decide) (fun c69 => ?_) (fun c69 => ?_)
                · have dc69 : r61.toInt = 0 := (fa_eq _ _).mp c69
                  refine lv_iconst (v := 0) hx hb dX2_readStone_177 (by decide) ?_
                  have l_l70 : (0 : Int32).toInt = 0 := rfl
                  rw [← hQm]
                  exact k_zret hC hr hlk hK hP hD hS (h51, h62, h63, v_M_5, h64, h65, h66, y67, h68, f12, f39, f60, g_M_off, g_M_worn, g_M_masterLow, g_M_masterHigh) [8, 6, 9, 10, 7, 0, 1, 2, 3, 4, 5] rfl (by decide +kernel) rfl ⟨(show 0 ≤ (0 : Int32).toInt ∧ (0 : Int32).toInt ≤ 1 ∧ 0 ≤ v_M_5.toInt ∧ v_M_5.toInt ≤ 6 ∧ 0 ≤ h64.toInt ∧ h64.toInt ≤ 1300 from by omega), hT_f39, hT_g_M_off⟩ (Nat.le_of_ble_eq_true rfl) (Nat.le_of_ble_eq_true rfl) dX2_readStone_178
                · have dc69 : r61.toInt ≠ 0 := fa_ne c69
                  refine lv_aload_n hx hb dX2_readStone_168 rfl (lv_at hl 1 rfl) ?_
                  refine lv_iconst (v := 0) hx hb dX2_readStone_169 (by decide) ?_
                  refine lv_iconst (v := 4) hx hb dX2_readStone_170 (by decide) ?_
                  refine k_ci (wr := [(a6, .inl (cI, 6, .inl f39)), (a7, .inl (cI, 6, .inl f60)), (a8, .inl (cI, 6, .inl g_M_off)), (a9, .inl (cI, 6, .inl g_M_worn)), (a10, .inl (cI, 6, .inl g_M_masterLow)), (a11, .inl (cI, 6, .inl g_M_masterHigh)), (a2, .inr (7, [.int v_M_0, .int v_M_1, .int v_M_2, .ref a3, .ref a4, .int v_M_5, .ref a5, .ref a6, .ref a7, .ref a8, .ref a9, .ref a10, .ref a11, .ref a12, .ref a13])), (a5, .inl (cJ, 6, .inr (.inl f12)))]) (k_rV hC hN hZ hS hA hK hP hD (c62_X2_takeNumber l G cI cJ cB cZ a0 a1 a2 a14 h51 v_rd_3 v_rd_4 v_rd_5 h62 h63 v_tp_1 h64 h65 h66 y67 h68 g_tp_bytes hv_0 hv_1 hv_2 hv_3 hv_10 hv_11 (by omega) (by omega) hT_g_tp_bytes) [8, 9, 10] rfl (by decide +kernel) mi_X2_takeNumber in_X2_takeNumber se_X2_takeNumber wm_X2_107 2 8 rfl rfl rfl hl.1 rfl rfl (Nat.le_of_ble_eq_true rfl) ⟨(Nat.le_of_ble_eq_true rfl), (Nat.le_of_ble_eq_true rfl)⟩ dX2_readStone_171 ⟨(Nat.le_of_ble_eq_true rfl), (Nat.le_of_ble_eq_true rfl)⟩) hP hD hS hA [8, 9, 10] [0, 1, 2, 3, 4, 5, 6, 7] rfl rfl (by decide +kernel) (by decide +kernel) (fun r71 u71 H locs hp hP hD hS => ?_)
                  obtain ⟨h72, h73, h74, h75, h76, h77, y78, h79⟩ := u71
                  have hP : va_P G cl [(a6, .inl (cI, 6, .inl f39)), (a7, .inl (cI, 6, .inl f60)), (a8, .inl (cI, 6, .inl g_M_off)), (a9, .inl (cI, 6, .inl g_M_worn)), (a10, .inl (cI, 6, .inl g_M_masterLow)), (a11, .inl (cI, 6, .inl g_M_masterHigh)), (a2, .inr (7, [.int v_M_0, .int v_M_1, .int v_M_2, .ref a3, .ref a4, .int v_M_5, .ref a5, .ref a6, .ref a7, .ref a8, .ref a9, .ref a10, .ref a11, .ref a12, .ref a13])), (a5, .inl (cJ, 6, .inr (.inl f12))), (a0, .inr (2, [.ref a1, .ref a2, .int h72, .int v_rd_3, .int v_rd_4, .int v_rd_5, .int h73, .int h74])), (a1, .inr (5, [.ref a14, .int v_tp_1, .int h75, .int h76, .int h77, .long y78, .int h79])), (a14, .inl (cB, 1300, .inl g_tp_bytes))] H := hP
                  have hD : va_D A [(a6, .inl (cI, 6, .inl f39)), (a7, .inl (cI, 6, .inl f60)), (a8, .inl (cI, 6, .inl g_M_off)), (a9, .inl (cI, 6, .inl g_M_worn)), (a10, .inl (cI, 6, .inl g_M_masterLow)), (a11, .inl (cI, 6, .inl g_M_masterHigh)), (a2, .inr (7, [.int v_M_0, .int v_M_1, .int v_M_2, .ref a3, .ref a4, .int v_M_5, .ref a5, .ref a6, .ref a7, .ref a8, .ref a9, .ref a10, .ref a11, .ref a12, .ref a13])), (a5, .inl (cJ, 6, .inr (.inl f12))), (a0, .inr (2, [.ref a1, .ref a2, .int h72, .int v_rd_3, .int v_rd_4, .int v_rd_5, .int h73, .int h74])), (a1, .inr (5, [.ref a14, .int v_tp_1, .int h75, .int h76, .int h77, .long y78, .int h79])), (a14, .inl (cB, 1300, .inl g_tp_bytes))] := hD
                  rcases (show (r71 = 0 ∧ (0 ≤ h75.toInt ∧ h75.toInt ≤ 1300)) ∨ (r71 = 1 ∧ (0 ≤ h72.toInt ∧ h72.toInt ≤ 4 ∧ 0 ≤ h75.toInt ∧ h75.toInt ≤ 1300 ∧ 0 ≤ h76.toInt ∧ h76.toInt ≤ 1300 ∧ 0 ≤ h77.toInt ∧ h77.toInt ≤ 4)) from hp) with ⟨rfl, hq71⟩ | ⟨rfl, hq71⟩
                  · clear hp
                    have l_71 : (0 : Int32).toInt = 0 := rfl
                    refine lv_if_ne (tgt := 179) hx hb dX2_readStone_174 (by decide) (fun c_ => absurd (by decide +kernel) c_) (fun _ => ?_)
                    refine lv_iconst (v := 0) hx hb dX2_readStone_177 (by decide) ?_
                    have l_l80 : (0 : Int32).toInt = 0 := rfl
                    rw [← hQm]
                    exact k_zret hC hr hlk hK hP hD hS (h72, h73, h74, v_M_5, h75, h76, h77, y78, h79, f12, f39, f60, g_M_off, g_M_worn, g_M_masterLow, g_M_masterHigh) [8, 6, 9, 10, 7, 0, 1, 2, 3, 4, 5] rfl (by decide +kernel) rfl ⟨(show 0 ≤ (0 : Int32).toInt ∧ (0 : Int32).toInt ≤ 1 ∧ 0 ≤ v_M_5.toInt ∧ v_M_5.toInt ≤ 6 ∧ 0 ≤ h75.toInt ∧ h75.toInt ≤ 1300 from by omega), hT_f39, hT_g_M_off⟩ (Nat.le_of_ble_eq_true rfl) (Nat.le_of_ble_eq_true rfl) dX2_readStone_178
                  · clear hp
                    have l_71 : (1 : Int32).toInt = 1 := rfl
                    refine lv_if_ne (tgt := 179) hx hb dX2_readStone_174 (by decide) (fun _ => ?_) (fun c_ => absurd c_ (by decide +kernel))
                    refine lv_aload_n hx hb dX2_readStone_179 rfl (lv_at hl 1 rfl) ?_
                    refine k_get hC hK hP iX2 8 1 wf_X2_21 rfl (by decide) rfl rfl dX2_readStone_180 ?_
                    refine k_getN hC hN hK hP iX7 6 9 wf_X2_179 rfl (by decide) rfl rfl dX2_readStone_183 ?_
                    refine lv_iload_n hx hb dX2_readStone_186 rfl (lv_at hl 0 rfl) ?_
                    refine lv_aload_n hx hb dX2_readStone_187 rfl (lv_at hl 1 rfl) ?_
                    refine k_get hC hK hP iX2 8 2 wf_X2_25 rfl (by decide) rfl rfl dX2_readStone_188 ?_
                    refine t_iast hC hK hP hD hS 2 rfl (by omega) (by omega) hT_g_M_off (by omega) dX2_readStone_191 (fun f81 H locs hT_f81 hP hD hS => ?_)
                    have hP : va_P G cl [(a6, .inl (cI, 6, .inl f39)), (a7, .inl (cI, 6, .inl f60)), (a8, .inl (cI, 6, .inl f81)), (a9, .inl (cI, 6, .inl g_M_worn)), (a10, .inl (cI, 6, .inl g_M_masterLow)), (a11, .inl (cI, 6, .inl g_M_masterHigh)), (a2, .inr (7, [.int v_M_0, .int v_M_1, .int v_M_2, .ref a3, .ref a4, .int v_M_5, .ref a5, .ref a6, .ref a7, .ref a8, .ref a9, .ref a10, .ref a11, .ref a12, .ref a13])), (a5, .inl (cJ, 6, .inr (.inl f12))), (a0, .inr (2, [.ref a1, .ref a2, .int h72, .int v_rd_3, .int v_rd_4, .int v_rd_5, .int h73, .int h74])), (a1, .inr (5, [.ref a14, .int v_tp_1, .int h75, .int h76, .int h77, .long y78, .int h79])), (a14, .inl (cB, 1300, .inl g_tp_bytes))] H := hP
                    have hD : va_D A [(a6, .inl (cI, 6, .inl f39)), (a7, .inl (cI, 6, .inl f60)), (a8, .inl (cI, 6, .inl f81)), (a9, .inl (cI, 6, .inl g_M_worn)), (a10, .inl (cI, 6, .inl g_M_masterLow)), (a11, .inl (cI, 6, .inl g_M_masterHigh)), (a2, .inr (7, [.int v_M_0, .int v_M_1, .int v_M_2, .ref a3, .ref a4, .int v_M_5, .ref a5, .ref a6, .ref a7, .ref a8, .ref a9, .ref a10, .ref a11, .ref a12, .ref a13])), (a5, .inl (cJ, 6, .inr (.inl f12))), (a0, .inr (2, [.ref a1, .ref a2, .int h72, .int v_rd_3, .int v_rd_4, .int v_rd_5, .int h73, .int h74])), (a1, .inr (5, [.ref a14, .int v_tp_1, .int h75, .int h76, .int h77, .long y78, .int h79])), (a14, .inl (cB, 1300, .inl g_tp_bytes))] := hD
                    refine lv_aload_n hx hb dX2_readStone_192 rfl (lv_at hl 1 rfl) ?_
                    refine lv_ldc2 (v := 2003792494) hx hb hown (hts _ kl_X2_182) dX2_readStone_193 ?_
                    refine k_ci (wr := [(a6, .inl (cI, 6, .inl f39)), (a7, .inl (cI, 6, .inl f60)), (a8, .inl (cI, 6, .inl f81)), (a9, .inl (cI, 6, .inl g_M_worn)), (a10, .inl (cI, 6, .inl g_M_masterLow)), (a11, .inl (cI, 6, .inl g_M_masterHigh)), (a2, .inr (7, [.int v_M_0, .int v_M_1, .int v_M_2, .ref a3, .ref a4, .int v_M_5, .ref a5, .ref a6, .ref a7, .ref a8, .ref a9, .ref a10, .ref a11, .ref a12, .ref a13])), (a5, .inl (cJ, 6, .inr (.inl f12)))]) (k_rV hC hN hZ hS hA hK hP hD (c49_X2_takeWord l G cI cJ cB cZ a0 a1 a2 a14 2003792494 h72 v_rd_3 v_rd_4 v_rd_5 h73 h74 v_tp_1 h75 h76 h77 y78 h79 g_tp_bytes hv_0 hv_1 hv_2 hv_3 hv_10 hv_11 (by omega) (by omega) hT_g_tp_bytes) [8, 9, 10] rfl (by decide +kernel) mi_X2_takeWord in_X2_takeWord se_X2_takeWord wm_X2_113 2 8 rfl rfl rfl hl.1 rfl rfl (Nat.le_of_ble_eq_true rfl) ⟨(Nat.le_of_ble_eq_true rfl), (Nat.le_of_ble_eq_true rfl)⟩ dX2_readStone_196 ⟨(Nat.le_of_ble_eq_true rfl), (Nat.le_of_ble_eq_true rfl)⟩) hP hD hS hA [8, 9, 10] [0, 1, 2, 3, 4, 5, 6, 7] rfl rfl (by decide +kernel) (by decide +kernel) (fun r82 u82 H locs hp hP hD hS => ?_)
                    obtain ⟨h83, h84, h85, h86, h87, y88, h89⟩ := u82
                    have hp : (0 ≤ r82.toInt ∧ r82.toInt ≤ 1 ∧ 0 ≤ h85.toInt ∧ h85.toInt ≤ 1300) := hp
                    have hP : va_P G cl [(a6, .inl (cI, 6, .inl f39)), (a7, .inl (cI, 6, .inl f60)), (a8, .inl (cI, 6, .inl f81)), (a9, .inl (cI, 6, .inl g_M_worn)), (a10, .inl (cI, 6, .inl g_M_masterLow)), (a11, .inl (cI, 6, .inl g_M_masterHigh)), (a2, .inr (7, [.int v_M_0, .int v_M_1, .int v_M_2, .ref a3, .ref a4, .int v_M_5, .ref a5, .ref a6, .ref a7, .ref a8, .ref a9, .ref a10, .ref a11, .ref a12, .ref a13])), (a5, .inl (cJ, 6, .inr (.inl f12))), (a0, .inr (2, [.ref a1, .ref a2, .int h72, .int v_rd_3, .int v_rd_4, .int v_rd_5, .int h83, .int h84])), (a1, .inr (5, [.ref a14, .int v_tp_1, .int h85, .int h86, .int h87, .long y88, .int h89])), (a14, .inl (cB, 1300, .inl g_tp_bytes))] H := hP
                    have hD : va_D A [(a6, .inl (cI, 6, .inl f39)), (a7, .inl (cI, 6, .inl f60)), (a8, .inl (cI, 6, .inl f81)), (a9, .inl (cI, 6, .inl g_M_worn)), (a10, .inl (cI, 6, .inl g_M_masterLow)), (a11, .inl (cI, 6, .inl g_M_masterHigh)), (a2, .inr (7, [.int v_M_0, .int v_M_1, .int v_M_2, .ref a3, .ref a4, .int v_M_5, .ref a5, .ref a6, .ref a7, .ref a8, .ref a9, .ref a10, .ref a11, .ref a12, .ref a13])), (a5, .inl (cJ, 6, .inr (.inl f12))), (a0, .inr (2, [.ref a1, .ref a2, .int h72, .int v_rd_3, .int v_rd_4, .int v_rd_5, .int h83, .int h84])), (a1, .inr (5, [.ref a14, .int v_tp_1, .int h85, .int h86, .int h87, .long y88, .int h89])), (a14, .inl (cB, 1300, .inl g_tp_bytes))] := hD
                    have hq82 := hp
                    refine lv_if_eq (tgt := 211) hx hb dX2_readStone_199 (by decide) (fun c90 => ?_) (fun c90 => ?_)
                    · have dc90 : r82.toInt = 0 := (fa_eq _ _).mp c90
                      refine lv_iconst (v := 0) hx hb dX2_readStone_211 (by decide) ?_
                      have l_l91 : (0 : Int32).toInt = 0 := rfl
                      rw [← hQm]
                      exact k_zret hC hr hlk hK hP hD hS (h72, h83, h84, v_M_5, h85, h86, h87, y88, h89, f12, f39, f60, f81, g_M_worn, g_M_masterLow, g_M_masterHigh) [8, 6, 9, 10, 7, 0, 1, 2, 3, 4, 5] rfl (by decide +kernel) rfl ⟨(show 0 ≤ (0 : Int32).toInt ∧ (0 : Int32).toInt ≤ 1 ∧ 0 ≤ v_M_5.toInt ∧ v_M_5.toInt ≤ 6 ∧ 0 ≤ h85.toInt ∧ h85.toInt ≤ 1300 from by omega), hT_f39, hT_f81⟩ (Nat.le_of_ble_eq_true rfl) (Nat.le_of_ble_eq_true rfl) dX2_readStone_212
                    · have dc90 : r82.toInt ≠ 0 := fa_ne c90
                      refine lv_aload_n hx hb dX2_readStone_202 rfl (lv_at hl 1 rfl) ?_
                      refine lv_iconst (v := 0) hx hb dX2_readStone_203 (by decide) ?_
                      refine lv_iconst (v := 3) hx hb dX2_readStone_204 (by decide) ?_
                      refine k_ci (wr := [(a6, .inl (cI, 6, .inl f39)), (a7, .inl (cI, 6, .inl f60)), (a8, .inl (cI, 6, .inl f81)), (a9, .inl (cI, 6, .inl g_M_worn)), (a10, .inl (cI, 6, .inl g_M_masterLow)), (a11, .inl (cI, 6, .inl g_M_masterHigh)), (a2, .inr (7, [.int v_M_0, .int v_M_1, .int v_M_2, .ref a3, .ref a4, .int v_M_5, .ref a5, .ref a6, .ref a7, .ref a8, .ref a9, .ref a10, .ref a11, .ref a12, .ref a13])), (a5, .inl (cJ, 6, .inr (.inl f12)))]) (k_rV hC hN hZ hS hA hK hP hD (c63_X2_takeNumber l G cI cJ cB cZ a0 a1 a2 a14 h72 v_rd_3 v_rd_4 v_rd_5 h83 h84 v_tp_1 h85 h86 h87 y88 h89 g_tp_bytes hv_0 hv_1 hv_2 hv_3 hv_10 hv_11 (by omega) (by omega) hT_g_tp_bytes) [8, 9, 10] rfl (by decide +kernel) mi_X2_takeNumber in_X2_takeNumber se_X2_takeNumber wm_X2_107 2 8 rfl rfl rfl hl.1 rfl rfl (Nat.le_of_ble_eq_true rfl) ⟨(Nat.le_of_ble_eq_true rfl), (Nat.le_of_ble_eq_true rfl)⟩ dX2_readStone_205 ⟨(Nat.le_of_ble_eq_true rfl), (Nat.le_of_ble_eq_true rfl)⟩) hP hD hS hA [8, 9, 10] [0, 1, 2, 3, 4, 5, 6, 7] rfl rfl (by decide +kernel) (by decide +kernel) (fun r92 u92 H locs hp hP hD hS => ?_)
                      obtain ⟨h93, h94, h95, h96, h97, h98, y99, h100⟩ := u92
                      have hP : va_P G cl [(a6, .inl (cI, 6, .inl f39)), (a7, .inl (cI, 6, .inl f60)), (a8, .inl (cI, 6, .inl f81)), (a9, .inl (cI, 6, .inl g_M_worn)), (a10, .inl (cI, 6, .inl g_M_masterLow)), (a11, .inl (cI, 6, .inl g_M_masterHigh)), (a2, .inr (7, [.int v_M_0, .int v_M_1, .int v_M_2, .ref a3, .ref a4, .int v_M_5, .ref a5, .ref a6, .ref a7, .ref a8, .ref a9, .ref a10, .ref a11, .ref a12, .ref a13])), (a5, .inl (cJ, 6, .inr (.inl f12))), (a0, .inr (2, [.ref a1, .ref a2, .int h93, .int v_rd_3, .int v_rd_4, .int v_rd_5, .int h94, .int h95])), (a1, .inr (5, [.ref a14, .int v_tp_1, .int h96, .int h97, .int h98, .long y99, .int h100])), (a14, .inl (cB, 1300, .inl g_tp_bytes))] H := hP
                      have hD : va_D A [(a6, .inl (cI, 6, .inl f39)), (a7, .inl (cI, 6, .inl f60)), (a8, .inl (cI, 6, .inl f81)), (a9, .inl (cI, 6, .inl g_M_worn)), (a10, .inl (cI, 6, .inl g_M_masterLow)), (a11, .inl (cI, 6, .inl g_M_masterHigh)), (a2, .inr (7, [.int v_M_0, .int v_M_1, .int v_M_2, .ref a3, .ref a4, .int v_M_5, .ref a5, .ref a6, .ref a7, .ref a8, .ref a9, .ref a10, .ref a11, .ref a12, .ref a13])), (a5, .inl (cJ, 6, .inr (.inl f12))), (a0, .inr (2, [.ref a1, .ref a2, .int h93, .int v_rd_3, .int v_rd_4, .int v_rd_5, .int h94, .int h95])), (a1, .inr (5, [.ref a14, .int v_tp_1, .int h96, .int h97, .int h98, .long y99, .int h100])), (a14, .inl (cB, 1300, .inl g_tp_bytes))] := hD
                      rcases (show (r92 = 0 ∧ (0 ≤ h96.toInt ∧ h96.toInt ≤ 1300)) ∨ (r92 = 1 ∧ (0 ≤ h93.toInt ∧ h93.toInt ≤ 3 ∧ 0 ≤ h96.toInt ∧ h96.toInt ≤ 1300 ∧ 0 ≤ h97.toInt ∧ h97.toInt ≤ 1300 ∧ 0 ≤ h98.toInt ∧ h98.toInt ≤ 4)) from hp) with ⟨rfl, hq92⟩ | ⟨rfl, hq92⟩
                      · clear hp
                        have l_92 : (0 : Int32).toInt = 0 := rfl
                        refine lv_if_ne (tgt := 213) hx hb dX2_readStone_208 (by decide) (fun c_ => absurd (by decide +kernel) c_) (fun _ => ?_)
                        refine lv_iconst (v := 0) hx hb dX2_readStone_211 (by decide) ?_
                        have l_l101 : (0 : Int32).toInt = 0 := rfl
                        rw [← hQm]
                        exact k_zret hC hr hlk hK hP hD hS (h93, h94, h95, v_M_5, h96, h97, h98, y99, h100, f12, f39, f60, f81, g_M_worn, g_M_masterLow, g_M_masterHigh) [8, 6, 9, 10, 7, 0, 1, 2, 3, 4, 5] rfl (by decide +kernel) rfl ⟨(show 0 ≤ (0 : Int32).toInt ∧ (0 : Int32).toInt ≤ 1 ∧ 0 ≤ v_M_5.toInt ∧ v_M_5.toInt ≤ 6 ∧ 0 ≤ h96.toInt ∧ h96.toInt ≤ 1300 from by omega), hT_f39, hT_f81⟩ (Nat.le_of_ble_eq_true rfl) (Nat.le_of_ble_eq_true rfl) dX2_readStone_212
                      · clear hp
                        have l_92 : (1 : Int32).toInt = 1 := rfl
                        refine lv_if_ne (tgt := 213) hx hb dX2_readStone_208 (by decide) (fun _ => ?_) (fun c_ => absurd c_ (by decide +kernel))
                        refine lv_aload_n hx hb dX2_readStone_213 rfl (lv_at hl 1 rfl) ?_
                        refine k_get hC hK hP iX2 8 1 wf_X2_21 rfl (by decide) rfl rfl dX2_readStone_214 ?_
                        refine k_getN hC hN hK hP iX7 6 10 wf_X2_184 rfl (by decide) rfl rfl dX2_readStone_217 ?_
                        refine lv_iload_n hx hb dX2_readStone_220 rfl (lv_at hl 0 rfl) ?_
                        refine lv_aload_n hx hb dX2_readStone_221 rfl (lv_at hl 1 rfl) ?_
                        refine k_get hC hK hP iX2 8 2 wf_X2_25 rfl (by decide) rfl rfl dX2_readStone_222 ?_
                        refine t_iast hC hK hP hD hS 3 rfl (by omega) (by omega) (TA.all _) ⟨i_lo _, i_hi _⟩ dX2_readStone_225 (fun f102 H locs hT_f102 hP hD hS => ?_)
                        have hP : va_P G cl [(a6, .inl (cI, 6, .inl f39)), (a7, .inl (cI, 6, .inl f60)), (a8, .inl (cI, 6, .inl f81)), (a9, .inl (cI, 6, .inl f102)), (a10, .inl (cI, 6, .inl g_M_masterLow)), (a11, .inl (cI, 6, .inl g_M_masterHigh)), (a2, .inr (7, [.int v_M_0, .int v_M_1, .int v_M_2, .ref a3, .ref a4, .int v_M_5, .ref a5, .ref a6, .ref a7, .ref a8, .ref a9, .ref a10, .ref a11, .ref a12, .ref a13])), (a5, .inl (cJ, 6, .inr (.inl f12))), (a0, .inr (2, [.ref a1, .ref a2, .int h93, .int v_rd_3, .int v_rd_4, .int v_rd_5, .int h94, .int h95])), (a1, .inr (5, [.ref a14, .int v_tp_1, .int h96, .int h97, .int h98, .long y99, .int h100])), (a14, .inl (cB, 1300, .inl g_tp_bytes))] H := hP
                        have hD : va_D A [(a6, .inl (cI, 6, .inl f39)), (a7, .inl (cI, 6, .inl f60)), (a8, .inl (cI, 6, .inl f81)), (a9, .inl (cI, 6, .inl f102)), (a10, .inl (cI, 6, .inl g_M_masterLow)), (a11, .inl (cI, 6, .inl g_M_masterHigh)), (a2, .inr (7, [.int v_M_0, .int v_M_1, .int v_M_2, .ref a3, .ref a4, .int v_M_5, .ref a5, .ref a6, .ref a7, .ref a8, .ref a9, .ref a10, .ref a11, .ref a12, .ref a13])), (a5, .inl (cJ, 6, .inr (.inl f12))), (a0, .inr (2, [.ref a1, .ref a2, .int h93, .int v_rd_3, .int v_rd_4, .int v_rd_5, .int h94, .int h95])), (a1, .inr (5, [.ref a14, .int v_tp_1, .int h96, .int h97, .int h98, .long y99, .int h100])), (a14, .inl (cB, 1300, .inl g_tp_bytes))] := hD
                        refine lv_aload_n hx hb dX2_readStone_226 rfl (lv_at hl 1 rfl) ?_
                        refine k_get hC hK hP iX2 8 1 wf_X2_21 rfl (by decide) rfl rfl dX2_readStone_227 ?_
                        refine k_getN hC hN hK hP iX7 6 11 wf_X2_187 rfl (by decide) rfl rfl dX2_readStone_230 ?_
                        refine lv_iload_n hx hb dX2_readStone_233 rfl (lv_at hl 0 rfl) ?_
                        refine lv_iconst (v := (-1)) hx hb dX2_readStone_234 (by decide) ?_
                        refine t_iast hC hK hP hD hS 4 rfl (by omega) (by omega) (TA.all _) ⟨i_lo _, i_hi _⟩ dX2_readStone_235 (fun f103 H locs hT_f103 hP hD hS => ?_)
                        have hP : va_P G cl [(a6, .inl (cI, 6, .inl f39)), (a7, .inl (cI, 6, .inl f60)), (a8, .inl (cI, 6, .inl f81)), (a9, .inl (cI, 6, .inl f102)), (a10, .inl (cI, 6, .inl f103)), (a11, .inl (cI, 6, .inl g_M_masterHigh)), (a2, .inr (7, [.int v_M_0, .int v_M_1, .int v_M_2, .ref a3, .ref a4, .int v_M_5, .ref a5, .ref a6, .ref a7, .ref a8, .ref a9, .ref a10, .ref a11, .ref a12, .ref a13])), (a5, .inl (cJ, 6, .inr (.inl f12))), (a0, .inr (2, [.ref a1, .ref a2, .int h93, .int v_rd_3, .int v_rd_4, .int v_rd_5, .int h94, .int h95])), (a1, .inr (5, [.ref a14, .int v_tp_1, .int h96, .int h97, .int h98, .long y99, .int h100])), (a14, .inl (cB, 1300, .inl g_tp_bytes))] H := hP
                        have hD : va_D A [(a6, .inl (cI, 6, .inl f39)), (a7, .inl (cI, 6, .inl f60)), (a8, .inl (cI, 6, .inl f81)), (a9, .inl (cI, 6, .inl f102)), (a10, .inl (cI, 6, .inl f103)), (a11, .inl (cI, 6, .inl g_M_masterHigh)), (a2, .inr (7, [.int v_M_0, .int v_M_1, .int v_M_2, .ref a3, .ref a4, .int v_M_5, .ref a5, .ref a6, .ref a7, .ref a8, .ref a9, .ref a10, .ref a11, .ref a12, .ref a13])), (a5, .inl (cJ, 6, .inr (.inl f12))), (a0, .inr (2, [.ref a1, .ref a2, .int h93, .int v_rd_3, .int v_rd_4, .int v_rd_5, .int h94, .int h95])), (a1, .inr (5, [.ref a14, .int v_tp_1, .int h96, .int h97, .int h98, .long y99, .int h100])), (a14, .inl (cB, 1300, .inl g_tp_bytes))] := hD
                        refine lv_aload_n hx hb dX2_readStone_236 rfl (lv_at hl 1 rfl) ?_
                        refine k_get hC hK hP iX2 8 1 wf_X2_21 rfl (by decide) rfl rfl dX2_readStone_237 ?_
                        refine k_getN hC hN hK hP iX7 6 12 wf_X2_190 rfl (by decide) rfl rfl dX2_readStone_240 ?_
                        refine lv_iload_n hx hb dX2_readStone_243 rfl (lv_at hl 0 rfl) ?_
                        refine lv_iconst (v := (-1)) hx hb dX2_readStone_244 (by decide) ?_
                        refine t_iast hC hK hP hD hS 5 rfl (by omega) (by omega) (TA.all _) ⟨i_lo _, i_hi _⟩ dX2_readStone_245 (fun f104 H locs hT_f104 hP hD hS => ?_)
                        have hP : va_P G cl [(a6, .inl (cI, 6, .inl f39)), (a7, .inl (cI, 6, .inl f60)), (a8, .inl (cI, 6, .inl f81)), (a9, .inl (cI, 6, .inl f102)), (a10, .inl (cI, 6, .inl f103)), (a11, .inl (cI, 6, .inl f104)), (a2, .inr (7, [.int v_M_0, .int v_M_1, .int v_M_2, .ref a3, .ref a4, .int v_M_5, .ref a5, .ref a6, .ref a7, .ref a8, .ref a9, .ref a10, .ref a11, .ref a12, .ref a13])), (a5, .inl (cJ, 6, .inr (.inl f12))), (a0, .inr (2, [.ref a1, .ref a2, .int h93, .int v_rd_3, .int v_rd_4, .int v_rd_5, .int h94, .int h95])), (a1, .inr (5, [.ref a14, .int v_tp_1, .int h96, .int h97, .int h98, .long y99, .int h100])), (a14, .inl (cB, 1300, .inl g_tp_bytes))] H := hP
                        have hD : va_D A [(a6, .inl (cI, 6, .inl f39)), (a7, .inl (cI, 6, .inl f60)), (a8, .inl (cI, 6, .inl f81)), (a9, .inl (cI, 6, .inl f102)), (a10, .inl (cI, 6, .inl f103)), (a11, .inl (cI, 6, .inl f104)), (a2, .inr (7, [.int v_M_0, .int v_M_1, .int v_M_2, .ref a3, .ref a4, .int v_M_5, .ref a5, .ref a6, .ref a7, .ref a8, .ref a9, .ref a10, .ref a11, .ref a12, .ref a13])), (a5, .inl (cJ, 6, .inr (.inl f12))), (a0, .inr (2, [.ref a1, .ref a2, .int h93, .int v_rd_3, .int v_rd_4, .int v_rd_5, .int h94, .int h95])), (a1, .inr (5, [.ref a14, .int v_tp_1, .int h96, .int h97, .int h98, .long y99, .int h100])), (a14, .inl (cB, 1300, .inl g_tp_bytes))] := hD
                        refine lv_aload_n hx hb dX2_readStone_246 rfl (lv_at hl 1 rfl) ?_
                        refine k_get hC hK hP iX2 8 1 wf_X2_21 rfl (by decide) rfl rfl dX2_readStone_247 ?_
                        refine lv_dup hx hb dX2_readStone_250 rfl ?_
                        refine k_getN hC hN hK hP iX7 6 5 wf_X2_149 rfl (by decide) rfl rfl dX2_readStone_251 ?_
                        refine lv_iconst (v := 1) hx hb dX2_readStone_254 (by decide) ?_
                        refine lv_iadd hx hb dX2_readStone_255 ?_
                        refine t_i (fun q => q.toInt = v_M_5.toInt + 1) (add_i (by show (-2147483648 : Int) ≤ v_M_5.toInt + 1; omega) (by show v_M_5.toInt + 1 ≤ (2147483647 : Int); omega)) (fun z105 tz105 => ?_)
                        refine k_putN hC hN hK hP hD hS iX7 tyX7_ok nmX7 6 5 wf_X2_149 rfl (by decide) rfl rfl rfl rfl (Nat.le_of_ble_eq_true rfl) dX2_readStone_256 (fun H locs hP hD hS => ?_)
                        have hP : va_P G cl [(a6, .inl (cI, 6, .inl f39)), (a7, .inl (cI, 6, .inl f60)), (a8, .inl (cI, 6, .inl f81)), (a9, .inl (cI, 6, .inl f102)), (a10, .inl (cI, 6, .inl f103)), (a11, .inl (cI, 6, .inl f104)), (a2, .inr (7, [.int v_M_0, .int v_M_1, .int v_M_2, .ref a3, .ref a4, .int z105, .ref a5, .ref a6, .ref a7, .ref a8, .ref a9, .ref a10, .ref a11, .ref a12, .ref a13])), (a5, .inl (cJ, 6, .inr (.inl f12))), (a0, .inr (2, [.ref a1, .ref a2, .int h93, .int v_rd_3, .int v_rd_4, .int v_rd_5, .int h94, .int h95])), (a1, .inr (5, [.ref a14, .int v_tp_1, .int h96, .int h97, .int h98, .long y99, .int h100])), (a14, .inl (cB, 1300, .inl g_tp_bytes))] H := hP
                        have hD : va_D A [(a6, .inl (cI, 6, .inl f39)), (a7, .inl (cI, 6, .inl f60)), (a8, .inl (cI, 6, .inl f81)), (a9, .inl (cI, 6, .inl f102)), (a10, .inl (cI, 6, .inl f103)), (a11, .inl (cI, 6, .inl f104)), (a2, .inr (7, [.int v_M_0, .int v_M_1, .int v_M_2, .ref a3, .ref a4, .int z105, .ref a5, .ref a6, .ref a7, .ref a8, .ref a9, .ref a10, .ref a11, .ref a12, .ref a13])), (a5, .inl (cJ, 6, .inr (.inl f12))), (a0, .inr (2, [.ref a1, .ref a2, .int h93, .int v_rd_3, .int v_rd_4, .int v_rd_5, .int h94, .int h95])), (a1, .inr (5, [.ref a14, .int v_tp_1, .int h96, .int h97, .int h98, .long y99, .int h100])), (a14, .inl (cB, 1300, .inl g_tp_bytes))] := hD
                        refine lv_aload_n hx hb dX2_readStone_259 rfl (lv_at hl 1 rfl) ?_
                        refine k_ci (wr := [(a6, .inl (cI, 6, .inl f39)), (a7, .inl (cI, 6, .inl f60)), (a8, .inl (cI, 6, .inl f81)), (a9, .inl (cI, 6, .inl f102)), (a10, .inl (cI, 6, .inl f103)), (a11, .inl (cI, 6, .inl f104)), (a2, .inr (7, [.int v_M_0, .int v_M_1, .int v_M_2, .ref a3, .ref a4, .int z105, .ref a5, .ref a6, .ref a7, .ref a8, .ref a9, .ref a10, .ref a11, .ref a12, .ref a13])), (a5, .inl (cJ, 6, .inr (.inl f12)))]) (k_rV hC hN hZ hS hA hK hP hD (c51_X2_takeSign l G cI cJ cB cZ a0 a1 a2 a14 h93 v_rd_3 v_rd_4 v_rd_5 h94 h95 v_tp_1 h96 h97 h98 y99 h100 g_tp_bytes hv_0 hv_1 hv_2 hv_3 hv_10 hv_11 (by omega) (by omega) hT_g_tp_bytes) [8, 9, 10] rfl (by decide +kernel) mi_X2_takeSign in_X2_takeSign se_X2_takeSign wm_X2_128 2 8 rfl rfl rfl hl.1 rfl rfl (Nat.le_of_ble_eq_true rfl) ⟨(Nat.le_of_ble_eq_true rfl), (Nat.le_of_ble_eq_true rfl)⟩ dX2_readStone_260 ⟨(Nat.le_of_ble_eq_true rfl), (Nat.le_of_ble_eq_true rfl)⟩) hP hD hS hA [8, 9, 10] [0, 1, 2, 3, 4, 5, 6, 7] rfl rfl (by decide +kernel) (by decide +kernel) (fun r106 u106 H locs hp hP hD hS => ?_)
                        obtain ⟨h107, h108, h109, h110, h111, y112, h113⟩ := u106
                        have hp : (0 ≤ r106.toInt ∧ r106.toInt ≤ 1 ∧ 0 ≤ h109.toInt ∧ h109.toInt ≤ 1300) := hp
                        have hP : va_P G cl [(a6, .inl (cI, 6, .inl f39)), (a7, .inl (cI, 6, .inl f60)), (a8, .inl (cI, 6, .inl f81)), (a9, .inl (cI, 6, .inl f102)), (a10, .inl (cI, 6, .inl f103)), (a11, .inl (cI, 6, .inl f104)), (a2, .inr (7, [.int v_M_0, .int v_M_1, .int v_M_2, .ref a3, .ref a4, .int z105, .ref a5, .ref a6, .ref a7, .ref a8, .ref a9, .ref a10, .ref a11, .ref a12, .ref a13])), (a5, .inl (cJ, 6, .inr (.inl f12))), (a0, .inr (2, [.ref a1, .ref a2, .int h93, .int v_rd_3, .int v_rd_4, .int v_rd_5, .int h107, .int h108])), (a1, .inr (5, [.ref a14, .int v_tp_1, .int h109, .int h110, .int h111, .long y112, .int h113])), (a14, .inl (cB, 1300, .inl g_tp_bytes))] H := hP
                        have hD : va_D A [(a6, .inl (cI, 6, .inl f39)), (a7, .inl (cI, 6, .inl f60)), (a8, .inl (cI, 6, .inl f81)), (a9, .inl (cI, 6, .inl f102)), (a10, .inl (cI, 6, .inl f103)), (a11, .inl (cI, 6, .inl f104)), (a2, .inr (7, [.int v_M_0, .int v_M_1, .int v_M_2, .ref a3, .ref a4, .int z105, .ref a5, .ref a6, .ref a7, .ref a8, .ref a9, .ref a10, .ref a11, .ref a12, .ref a13])), (a5, .inl (cJ, 6, .inr (.inl f12))), (a0, .inr (2, [.ref a1, .ref a2, .int h93, .int v_rd_3, .int v_rd_4, .int v_rd_5, .int h107, .int h108])), (a1, .inr (5, [.ref a14, .int v_tp_1, .int h109, .int h110, .int h111, .long y112, .int h113])), (a14, .inl (cB, 1300, .inl g_tp_bytes))] := hD
                        have hq106 := hp
                        rw [← hQm]
                        exact k_zret hC hr hlk hK hP hD hS (h93, h107, h108, z105, h109, h110, h111, y112, h113, f12, f39, f60, f81, f102, f103, f104) [8, 6, 9, 10, 7, 0, 1, 2, 3, 4, 5] rfl (by decide +kernel) (nar_bool (by omega) (by omega)) ⟨(show 0 ≤ r106.toInt ∧ r106.toInt ≤ 1 ∧ 0 ≤ z105.toInt ∧ z105.toInt ≤ 6 ∧ 0 ≤ h109.toInt ∧ h109.toInt ≤ 1300 from by omega), hT_f39, hT_f81⟩ (Nat.le_of_ble_eq_true rfl) (Nat.le_of_ble_eq_true rfl) dX2_readStone_263
      · have dc11 : 0 ≤ r10.toInt := fa_nlt c11
        refine lv_aload_n hx hb dX2_readStone_60 rfl (lv_at hl 1 rfl) ?_
        refine lv_iconst (v := 3) hx hb dX2_readStone_61 (by decide) ?_
        have l_l115 : (3 : Int32).toInt = 3 := rfl
        refine k_ci (wr := [(a6, .inl (cI, 6, .inl g_M_says)), (a7, .inl (cI, 6, .inl g_M_town)), (a8, .inl (cI, 6, .inl g_M_off)), (a9, .inl (cI, 6, .inl g_M_worn)), (a10, .inl (cI, 6, .inl g_M_masterLow)), (a11, .inl (cI, 6, .inl g_M_masterHigh)), (a14, .inl (cB, 1300, .inl g_tp_bytes)), (a2, .inr (7, [.int v_M_0, .int v_M_1, .int v_M_2, .ref a3, .ref a4, .int v_M_5, .ref a5, .ref a6, .ref a7, .ref a8, .ref a9, .ref a10, .ref a11, .ref a12, .ref a13])), (a5, .inl (cJ, 6, .inr (.inl g_M_name)))]) (k_rV hC hN hZ hS hA hK hP hD (c47_X2_refuse l G cI cJ cB cZ a0 a1 a2 a14 3 v_rd_2 v_rd_3 v_rd_4 v_rd_5 v_rd_6 v_rd_7 v_tp_1 h3 h4 h5 y6 h7 hv_0 hv_1 hv_2 hv_3 hv_10 hv_11 (by omega) (by omega)) [0, 8] rfl (by decide +kernel) mi_X2_refuse in_X2_refuse se_X2_refuse wm_X2_100 2 0 rfl rfl rfl hl.1 rfl rfl (Nat.le_of_ble_eq_true rfl) ⟨(Nat.le_of_ble_eq_true rfl), (Nat.le_of_ble_eq_true rfl)⟩ dX2_readStone_62 ⟨(Nat.le_of_ble_eq_true rfl), (Nat.le_of_ble_eq_true rfl)⟩) hP hD hS hA [0, 8] [1, 2, 3, 4, 5, 6, 7, 9, 10] rfl rfl (by decide +kernel) (by decide +kernel) (fun r114 u114 H locs hp hP hD hS => ?_)
        obtain ⟨h116, h117⟩ := u114
        have hp : (r114 = 0 ∧ True) := hp
        obtain rfl : r114 = 0 := hp.1
        have hP : va_P G cl [(a6, .inl (cI, 6, .inl g_M_says)), (a7, .inl (cI, 6, .inl g_M_town)), (a8, .inl (cI, 6, .inl g_M_off)), (a9, .inl (cI, 6, .inl g_M_worn)), (a10, .inl (cI, 6, .inl g_M_masterLow)), (a11, .inl (cI, 6, .inl g_M_masterHigh)), (a14, .inl (cB, 1300, .inl g_tp_bytes)), (a2, .inr (7, [.int v_M_0, .int v_M_1, .int v_M_2, .ref a3, .ref a4, .int v_M_5, .ref a5, .ref a6, .ref a7, .ref a8, .ref a9, .ref a10, .ref a11, .ref a12, .ref a13])), (a5, .inl (cJ, 6, .inr (.inl g_M_name))), (a0, .inr (2, [.ref a1, .ref a2, .int v_rd_2, .int v_rd_3, .int v_rd_4, .int v_rd_5, .int h116, .int h117])), (a1, .inr (5, [.ref a14, .int v_tp_1, .int h3, .int h4, .int h5, .long y6, .int h7]))] H := hP
        have hD : va_D A [(a6, .inl (cI, 6, .inl g_M_says)), (a7, .inl (cI, 6, .inl g_M_town)), (a8, .inl (cI, 6, .inl g_M_off)), (a9, .inl (cI, 6, .inl g_M_worn)), (a10, .inl (cI, 6, .inl g_M_masterLow)), (a11, .inl (cI, 6, .inl g_M_masterHigh)), (a14, .inl (cB, 1300, .inl g_tp_bytes)), (a2, .inr (7, [.int v_M_0, .int v_M_1, .int v_M_2, .ref a3, .ref a4, .int v_M_5, .ref a5, .ref a6, .ref a7, .ref a8, .ref a9, .ref a10, .ref a11, .ref a12, .ref a13])), (a5, .inl (cJ, 6, .inr (.inl g_M_name))), (a0, .inr (2, [.ref a1, .ref a2, .int v_rd_2, .int v_rd_3, .int v_rd_4, .int v_rd_5, .int h116, .int h117])), (a1, .inr (5, [.ref a14, .int v_tp_1, .int h3, .int h4, .int h5, .long y6, .int h7]))] := hD
        have hq114 := hp
        have l_l118 : (0 : Int32).toInt = 0 := rfl
        rw [← hQm]
        exact k_zret hC hr hlk hK hP hD hS (v_rd_2, h116, h117, v_M_5, h3, h4, h5, y6, h7, g_M_name, g_M_says, g_M_town, g_M_off, g_M_worn, g_M_masterLow, g_M_masterHigh) [9, 7, 10, 6, 8, 0, 1, 2, 3, 4, 5] rfl (by decide +kernel) rfl ⟨(show 0 ≤ (0 : Int32).toInt ∧ (0 : Int32).toInt ≤ 1 ∧ 0 ≤ v_M_5.toInt ∧ v_M_5.toInt ≤ 6 ∧ 0 ≤ h3.toInt ∧ h3.toInt ≤ 1300 from by omega), hT_g_M_says, hT_g_M_off⟩ (Nat.le_of_ble_eq_true rfl) (Nat.le_of_ble_eq_true rfl) dX2_readStone_65
    · have dc9 : r8.toInt = 0 := (fa_eq _ _).mp c9
      refine lv_aload_n hx hb dX2_readStone_37 rfl (lv_at hl 1 rfl) ?_
      refine lv_iconst (v := 2) hx hb dX2_readStone_38 (by decide) ?_
      have l_l120 : (2 : Int32).toInt = 2 := rfl
      refine k_ci (wr := [(a2, .inr (7, [.int v_M_0, .int v_M_1, .int v_M_2, .ref a3, .ref a4, .int v_M_5, .ref a5, .ref a6, .ref a7, .ref a8, .ref a9, .ref a10, .ref a11, .ref a12, .ref a13])), (a5, .inl (cJ, 6, .inr (.inl g_M_name))), (a6, .inl (cI, 6, .inl g_M_says)), (a7, .inl (cI, 6, .inl g_M_town)), (a8, .inl (cI, 6, .inl g_M_off)), (a9, .inl (cI, 6, .inl g_M_worn)), (a10, .inl (cI, 6, .inl g_M_masterLow)), (a11, .inl (cI, 6, .inl g_M_masterHigh)), (a14, .inl (cB, 1300, .inl g_tp_bytes))]) (k_rV hC hN hZ hS hA hK hP hD (c47_X2_refuse l G cI cJ cB cZ a0 a1 a2 a14 2 v_rd_2 v_rd_3 v_rd_4 v_rd_5 v_rd_6 v_rd_7 v_tp_1 h3 h4 h5 y6 h7 hv_0 hv_1 hv_2 hv_3 hv_10 hv_11 (by omega) (by omega)) [0, 10] rfl (by decide +kernel) mi_X2_refuse in_X2_refuse se_X2_refuse wm_X2_100 2 0 rfl rfl rfl hl.1 rfl rfl (Nat.le_of_ble_eq_true rfl) ⟨(Nat.le_of_ble_eq_true rfl), (Nat.le_of_ble_eq_true rfl)⟩ dX2_readStone_39 ⟨(Nat.le_of_ble_eq_true rfl), (Nat.le_of_ble_eq_true rfl)⟩) hP hD hS hA [0, 10] [1, 2, 3, 4, 5, 6, 7, 8, 9] rfl rfl (by decide +kernel) (by decide +kernel) (fun r119 u119 H locs hp hP hD hS => ?_)
      obtain ⟨h121, h122⟩ := u119
      have hp : (r119 = 0 ∧ True) := hp
      obtain rfl : r119 = 0 := hp.1
      have hP : va_P G cl [(a2, .inr (7, [.int v_M_0, .int v_M_1, .int v_M_2, .ref a3, .ref a4, .int v_M_5, .ref a5, .ref a6, .ref a7, .ref a8, .ref a9, .ref a10, .ref a11, .ref a12, .ref a13])), (a5, .inl (cJ, 6, .inr (.inl g_M_name))), (a6, .inl (cI, 6, .inl g_M_says)), (a7, .inl (cI, 6, .inl g_M_town)), (a8, .inl (cI, 6, .inl g_M_off)), (a9, .inl (cI, 6, .inl g_M_worn)), (a10, .inl (cI, 6, .inl g_M_masterLow)), (a11, .inl (cI, 6, .inl g_M_masterHigh)), (a14, .inl (cB, 1300, .inl g_tp_bytes)), (a0, .inr (2, [.ref a1, .ref a2, .int v_rd_2, .int v_rd_3, .int v_rd_4, .int v_rd_5, .int h121, .int h122])), (a1, .inr (5, [.ref a14, .int v_tp_1, .int h3, .int h4, .int h5, .long y6, .int h7]))] H := hP
      have hD : va_D A [(a2, .inr (7, [.int v_M_0, .int v_M_1, .int v_M_2, .ref a3, .ref a4, .int v_M_5, .ref a5, .ref a6, .ref a7, .ref a8, .ref a9, .ref a10, .ref a11, .ref a12, .ref a13])), (a5, .inl (cJ, 6, .inr (.inl g_M_name))), (a6, .inl (cI, 6, .inl g_M_says)), (a7, .inl (cI, 6, .inl g_M_town)), (a8, .inl (cI, 6, .inl g_M_off)), (a9, .inl (cI, 6, .inl g_M_worn)), (a10, .inl (cI, 6, .inl g_M_masterLow)), (a11, .inl (cI, 6, .inl g_M_masterHigh)), (a14, .inl (cB, 1300, .inl g_tp_bytes)), (a0, .inr (2, [.ref a1, .ref a2, .int v_rd_2, .int v_rd_3, .int v_rd_4, .int v_rd_5, .int h121, .int h122])), (a1, .inr (5, [.ref a14, .int v_tp_1, .int h3, .int h4, .int h5, .long y6, .int h7]))] := hD
      have hq119 := hp
      have l_l123 : (0 : Int32).toInt = 0 := rfl
      rw [← hQm]
      exact k_zret hC hr hlk hK hP hD hS (v_rd_2, h121, h122, v_M_5, h3, h4, h5, y6, h7, g_M_name, g_M_says, g_M_town, g_M_off, g_M_worn, g_M_masterLow, g_M_masterHigh) [9, 0, 10, 8, 1, 2, 3, 4, 5, 6, 7] rfl (by decide +kernel) rfl ⟨(show 0 ≤ (0 : Int32).toInt ∧ (0 : Int32).toInt ≤ 1 ∧ 0 ≤ v_M_5.toInt ∧ v_M_5.toInt ≤ 6 ∧ 0 ≤ h3.toInt ∧ h3.toInt ≤ 1300 from by omega), hT_g_M_says, hT_g_M_off⟩ (Nat.le_of_ble_eq_true rfl) (Nat.le_of_ble_eq_true rfl) dX2_readStone_42
  · have dc1 : 6 ≤ v_M_5.toInt := fa_nlt c1
    refine lv_aload_n hx hb dX2_readStone_14 rfl (lv_at hl 1 rfl) ?_
    refine lv_iconst (v := 2) hx hb dX2_readStone_15 (by decide) ?_
    have l_l125 : (2 : Int32).toInt = 2 := rfl
    refine k_ci (wr := [(a2, .inr (7, [.int v_M_0, .int v_M_1, .int v_M_2, .ref a3, .ref a4, .int v_M_5, .ref a5, .ref a6, .ref a7, .ref a8, .ref a9, .ref a10, .ref a11, .ref a12, .ref a13])), (a14, .inl (cB, 1300, .inl g_tp_bytes)), (a5, .inl (cJ, 6, .inr (.inl g_M_name))), (a6, .inl (cI, 6, .inl g_M_says)), (a7, .inl (cI, 6, .inl g_M_town)), (a8, .inl (cI, 6, .inl g_M_off)), (a9, .inl (cI, 6, .inl g_M_worn)), (a10, .inl (cI, 6, .inl g_M_masterLow)), (a11, .inl (cI, 6, .inl g_M_masterHigh))]) (k_rV hC hN hZ hS hA hK hP hD (c47_X2_refuse l G cI cJ cB cZ a0 a1 a2 a14 2 v_rd_2 v_rd_3 v_rd_4 v_rd_5 v_rd_6 v_rd_7 v_tp_1 v_tp_2 v_tp_3 v_tp_4 w_tp_5 v_tp_6 hv_0 hv_1 hv_2 hv_3 hv_10 hv_11 hv_12 hv_13) [0, 2] rfl (by decide +kernel) mi_X2_refuse in_X2_refuse se_X2_refuse wm_X2_100 2 0 rfl rfl rfl hl.1 rfl rfl (Nat.le_of_ble_eq_true rfl) ⟨(Nat.le_of_ble_eq_true rfl), (Nat.le_of_ble_eq_true rfl)⟩ dX2_readStone_16 ⟨(Nat.le_of_ble_eq_true rfl), (Nat.le_of_ble_eq_true rfl)⟩) hP hD hS hA [0, 2] [1, 3, 4, 5, 6, 7, 8, 9, 10] rfl rfl (by decide +kernel) (by decide +kernel) (fun r124 u124 H locs hp hP hD hS => ?_)
    obtain ⟨h126, h127⟩ := u124
    have hp : (r124 = 0 ∧ True) := hp
    obtain rfl : r124 = 0 := hp.1
    have hP : va_P G cl [(a2, .inr (7, [.int v_M_0, .int v_M_1, .int v_M_2, .ref a3, .ref a4, .int v_M_5, .ref a5, .ref a6, .ref a7, .ref a8, .ref a9, .ref a10, .ref a11, .ref a12, .ref a13])), (a14, .inl (cB, 1300, .inl g_tp_bytes)), (a5, .inl (cJ, 6, .inr (.inl g_M_name))), (a6, .inl (cI, 6, .inl g_M_says)), (a7, .inl (cI, 6, .inl g_M_town)), (a8, .inl (cI, 6, .inl g_M_off)), (a9, .inl (cI, 6, .inl g_M_worn)), (a10, .inl (cI, 6, .inl g_M_masterLow)), (a11, .inl (cI, 6, .inl g_M_masterHigh)), (a0, .inr (2, [.ref a1, .ref a2, .int v_rd_2, .int v_rd_3, .int v_rd_4, .int v_rd_5, .int h126, .int h127])), (a1, .inr (5, [.ref a14, .int v_tp_1, .int v_tp_2, .int v_tp_3, .int v_tp_4, .long w_tp_5, .int v_tp_6]))] H := hP
    have hD : va_D A [(a2, .inr (7, [.int v_M_0, .int v_M_1, .int v_M_2, .ref a3, .ref a4, .int v_M_5, .ref a5, .ref a6, .ref a7, .ref a8, .ref a9, .ref a10, .ref a11, .ref a12, .ref a13])), (a14, .inl (cB, 1300, .inl g_tp_bytes)), (a5, .inl (cJ, 6, .inr (.inl g_M_name))), (a6, .inl (cI, 6, .inl g_M_says)), (a7, .inl (cI, 6, .inl g_M_town)), (a8, .inl (cI, 6, .inl g_M_off)), (a9, .inl (cI, 6, .inl g_M_worn)), (a10, .inl (cI, 6, .inl g_M_masterLow)), (a11, .inl (cI, 6, .inl g_M_masterHigh)), (a0, .inr (2, [.ref a1, .ref a2, .int v_rd_2, .int v_rd_3, .int v_rd_4, .int v_rd_5, .int h126, .int h127])), (a1, .inr (5, [.ref a14, .int v_tp_1, .int v_tp_2, .int v_tp_3, .int v_tp_4, .long w_tp_5, .int v_tp_6]))] := hD
    have hq124 := hp
    have l_l128 : (0 : Int32).toInt = 0 := rfl
    rw [← hQm]
    exact k_zret hC hr hlk hK hP hD hS (v_rd_2, h126, h127, v_M_5, v_tp_2, v_tp_3, v_tp_4, w_tp_5, v_tp_6, g_M_name, g_M_says, g_M_town, g_M_off, g_M_worn, g_M_masterLow, g_M_masterHigh) [9, 0, 10, 1, 2, 3, 4, 5, 6, 7, 8] rfl (by decide +kernel) rfl ⟨(show 0 ≤ (0 : Int32).toInt ∧ (0 : Int32).toInt ≤ 1 ∧ 0 ≤ v_M_5.toInt ∧ v_M_5.toInt ≤ 6 ∧ 0 ≤ v_tp_2.toInt ∧ v_tp_2.toInt ≤ 1300 from by omega), hT_g_M_says, hT_g_M_off⟩ (Nat.le_of_ble_eq_true rfl) (Nat.le_of_ble_eq_true rfl) dX2_readStone_19

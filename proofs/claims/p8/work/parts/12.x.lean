theorem dX4_traders_0 : decode cX4_traders 0 = .ok (.iconst 0, 1) := by decide +kernel
theorem dX4_traders_1 : decode cX4_traders 1 = .ok (.istore_n 1, 1) := by decide +kernel
theorem dX4_traders_2 : decode cX4_traders 2 = .ok (.iconst 0, 1) := by decide +kernel
theorem dX4_traders_3 : decode cX4_traders 3 = .ok (.istore_n 2, 1) := by decide +kernel
theorem dX4_traders_4 : decode cX4_traders 4 = .ok (.iload_n 2, 1) := by decide +kernel
theorem dX4_traders_5 : decode cX4_traders 5 = .ok (.aload_n 0, 1) := by decide +kernel
theorem dX4_traders_6 : decode cX4_traders 6 = .ok (.getfield 30, 3) := by decide +kernel
theorem dX4_traders_9 : decode cX4_traders 9 = .ok (.getfield 60, 3) := by decide +kernel
theorem dX4_traders_12 : decode cX4_traders 12 = .ok (.if_icmp .ge 23, 3) := by decide +kernel
theorem dX4_traders_35 : decode cX4_traders 35 = .ok (.iload_n 1, 1) := by decide +kernel
theorem dX4_traders_36 : decode cX4_traders 36 = .ok (.ireturn, 1) := by decide +kernel
theorem dX4_traders_15 : decode cX4_traders 15 = .ok (.iload_n 1, 1) := by decide +kernel
theorem dX4_traders_16 : decode cX4_traders 16 = .ok (.iconst 1, 1) := by decide +kernel
theorem dX4_traders_17 : decode cX4_traders 17 = .ok (.aload_n 0, 1) := by decide +kernel
theorem dX4_traders_18 : decode cX4_traders 18 = .ok (.getfield 30, 3) := by decide +kernel
theorem dX4_traders_21 : decode cX4_traders 21 = .ok (.getfield 78, 3) := by decide +kernel
set_option maxRecDepth 100000 in
theorem wf_X4_78 : Cond.fieldLinkNest RX4 78 "StoneTrust$Weighings" "trader" "[I" "StoneTrust" ∈ nests := nm_ (List.mem_of_getElem? (i := 157) (by decide +kernel)) rfl
theorem dX4_traders_24 : decode cX4_traders 24 = .ok (.iload_n 2, 1) := by decide +kernel
theorem dX4_traders_25 : decode cX4_traders 25 = .ok (.iaload, 1) := by decide +kernel
theorem dX4_traders_26 : decode cX4_traders 26 = .ok (.ishl, 1) := by decide +kernel
theorem dX4_traders_27 : decode cX4_traders 27 = .ok (.ior, 1) := by decide +kernel
theorem dX4_traders_28 : decode cX4_traders 28 = .ok (.istore_n 1, 1) := by decide +kernel
theorem dX4_traders_29 : decode cX4_traders 29 = .ok (.iinc 2 1, 3) := by decide +kernel
theorem dX4_traders_32 : decode cX4_traders 32 = .ok (.goto (-28), 3) := by decide +kernel
set_option maxHeartbeats 4000000 in
set_option maxRecDepth 100000 in
theorem c82_X4_traders (l : Launch) (G : va_G) (cI cJ cB cZ : ClassId) (a0 a1 a2 a3 a4 a5 a6 a7 a8 a9 a10 a11 a12 a13 a14 : Nat) (v_se_7 : Int32) (v_se_8 : Int32) (v_se_9 : Int32) (v_se_10 : Int32) (v_cn_7 : Int32) (g_cn_trader : Nat → Int32) (hv_0 : 0 ≤ v_se_8.toInt) (hv_1 : v_se_9.toInt ≤ 2147483646) (hv_2 : 0 ≤ v_cn_7.toInt) (hv_3 : v_cn_7.toInt ≤ 46) : Con l G (TY cI cJ cB cZ) yX4_traders cX4_traders 3 (some .int) ({ frames := 0, cells := 0, slots := 0, locals := 0 } : Room) [.ref a0] [(a0, .inr (4, [.ref a1, .ref a2, .ref a3, .ref a4, .ref a5, .ref a6, .ref a7, .int v_se_7, .int v_se_8, .int v_se_9, .int v_se_10])), (a3, .inr (8, [.ref a8, .ref a9, .ref a10, .ref a11, .ref a12, .ref a13, .ref a14, .int v_cn_7])), (a11, .inl (cI, 46, .inl g_cn_trader))] (QI G (TY cI cJ cB cZ) (fun (r : Int32) (u : Unit) => (True)) (fun u : Unit => [(a0, .inr (4, [.ref a1, .ref a2, .ref a3, .ref a4, .ref a5, .ref a6, .ref a7, .int v_se_7, .int v_se_8, .int v_se_9, .int v_se_10])), (a3, .inr (8, [.ref a8, .ref a9, .ref a10, .ref a11, .ref a12, .ref a13, .ref a14, .int v_cn_7])), (a11, .inl (cI, 46, .inl g_cn_trader))])) := by
  refine k_met (by decide) (Nat.le_of_ble_eq_true rfl) ?_
  intro p e s m below meth c A ls hC hr hlk hnm hN hZ hK hA hP hD hS hl
  have hl : lv_has ls 3 [(0, .ref a0)] := hl
  generalize hQm : MQ below _ _ s _ _ A = Qm
  generalize (List.toArray _ : Array Value) = args at hC hQm ⊢
  obtain ⟨hx, hb, hml, hown, hts⟩ := id hC
  obtain ⟨H, hH⟩ : ∃ q, q = s.heap := ⟨_, rfl⟩
  obtain ⟨locs, hlo⟩ : ∃ q : List Loc, q = [] := ⟨_, rfl⟩
  have hP : va_P G cl [(a0, .inr (4, [.ref a1, .ref a2, .ref a3, .ref a4, .ref a5, .ref a6, .ref a7, .int v_se_7, .int v_se_8, .int v_se_9, .int v_se_10])), (a3, .inr (8, [.ref a8, .ref a9, .ref a10, .ref a11, .ref a12, .ref a13, .ref a14, .int v_cn_7])), (a11, .inl (cI, 46, .inl g_cn_trader))] H := by rw [hH]; exact hP
  have hS : va_S A s.heap H locs := by rw [hH, hlo]; exact hS
  rw [← hlo]
  rw [← hH]
  refine lv_iconst (v := 0) hx hb dX4_traders_0 (by decide) ?_
  refine lv_istore_n (lv' := [(1, .int 0), (0, .ref a0)]) hx hb dX4_traders_1 rfl hl (by decide) rfl (fun ls hl => ?_)
  refine lv_iconst (v := 0) hx hb dX4_traders_2 (by decide) ?_
  refine lv_istore_n (lv' := [(2, .int 0), (1, .int 0), (0, .ref a0)]) hx hb dX4_traders_3 rfl hl (by decide) rfl (fun ls hl => ?_)
  have L_4 : ∀ (n : Nat) (x1 : Int32) (x2 : Int32) (H : Heap) (locs : List Loc) (ls : Array Slot), (0 ≤ x1.toInt ∧ x1.toInt ≤ 46) → 46 - x1.toInt < (n : Int) → va_P G cl [(a0, .inr (4, [.ref a1, .ref a2, .ref a3, .ref a4, .ref a5, .ref a6, .ref a7, .int v_se_7, .int v_se_8, .int v_se_9, .int v_se_10])), (a3, .inr (8, [.ref a8, .ref a9, .ref a10, .ref a11, .ref a12, .ref a13, .ref a14, .int v_cn_7])), (a11, .inl (cI, 46, .inl g_cn_trader))] H → va_D A [(a0, .inr (4, [.ref a1, .ref a2, .ref a3, .ref a4, .ref a5, .ref a6, .ref a7, .int v_se_7, .int v_se_8, .int v_se_9, .int v_se_10])), (a3, .inr (8, [.ref a8, .ref a9, .ref a10, .ref a11, .ref a12, .ref a13, .ref a14, .int v_cn_7])), (a11, .inl (cI, 46, .inl g_cn_trader))] → va_S A s.heap H locs → lv_has ls 3 [(0, .ref a0), (1, .int x2), (2, .int x1)] → W p l e ({ frames := 0, cells := 0, slots := 0, locals := 0 } : Room) s m args below meth c H locs 0 0 Qm (F0 m 4 ls []) := by
    intro n
    induction n with
    | zero => intro x1 x2 H locs ls hv hm; omega
    | succ n ih =>
      intro x1 x2 H locs ls hv hm hP hD hS hl
      refine lv_iload_n hx hb dX4_traders_4 rfl (lv_at hl 2 rfl) ?_
      refine lv_aload_n hx hb dX4_traders_5 rfl (lv_at hl 0 rfl) ?_
      refine k_get hC hK hP iX4 0 2 wf_X4_30 rfl (by decide) rfl rfl dX4_traders_6 ?_
      refine k_getN hC hN hK hP iX8 1 7 wf_X4_60 rfl (by decide) rfl rfl dX4_traders_9 ?_
      refine lv_icmp_ge (tgt := 35) hx hb dX4_traders_12 (by decide) (fun c3 => ?_) (fun c3 => ?_)
      · have dc3 : v_cn_7.toInt ≤ x1.toInt := (fa_le _ _).mp c3
        refine lv_iload_n hx hb dX4_traders_35 rfl (lv_at hl 1 rfl) ?_
        rw [← hQm]
        exact k_iret hC hr hlk hK hP hD hS () [0, 1, 2] rfl (by decide +kernel) trivial (Nat.le_of_ble_eq_true rfl) (Nat.le_of_ble_eq_true rfl) dX4_traders_36
      · have dc3 : x1.toInt < v_cn_7.toInt := fa_nle c3
        refine lv_iload_n hx hb dX4_traders_15 rfl (lv_at hl 1 rfl) ?_
        refine lv_iconst (v := 1) hx hb dX4_traders_16 (by decide) ?_
        refine lv_aload_n hx hb dX4_traders_17 rfl (lv_at hl 0 rfl) ?_
        refine k_get hC hK hP iX4 0 2 wf_X4_30 rfl (by decide) rfl rfl dX4_traders_18 ?_
        refine k_getN hC hN hK hP iX8 1 3 wf_X4_78 rfl (by decide) rfl rfl dX4_traders_21 ?_
        refine lv_iload_n hx hb dX4_traders_24 rfl (lv_at hl 2 rfl) ?_
        refine t_iald hC hK hP 2 rfl (by omega) (by omega) (TA.all _) dX4_traders_25 (fun z4 tz4 => ?_)
        refine lv_ishl hx hb dX4_traders_26 ?_
        refine lv_topi (fun z5 _ => ?_)
        refine lv_ior hx hb dX4_traders_27 ?_
        refine lv_topi (fun z6 _ => ?_)
        refine lv_istore_n (lv' := [(1, .int z6), (0, .ref a0), (2, .int x1)]) hx hb dX4_traders_28 rfl hl (by decide) rfl (fun ls hl => ?_)
        obtain ⟨z7, ez7⟩ : ∃ q : Int32, q = x1 + Int32.ofInt 1 := ⟨_, rfl⟩
        have tz7 : z7.toInt = x1.toInt + 1 := by rw [ez7]; exact add_i (y := 1) (by have p_ := i_lo x1; show _ ≤ _ + (1 : Int); omega) (by have q_ := i_hi x1; show _ + (1 : Int) ≤ _; omega)
        refine lv_iinc (v := z7) (lv' := [(2, .int z7), (1, .int z6), (0, .ref a0)]) hx hb dX4_traders_29 hl (k := 2) rfl ez7.symm (by decide) rfl (fun ls hl => ?_)
        refine lv_goto (tgt := 4) hx hb dX4_traders_32 (by decide) ?_
        exact ih  z7 z6 H locs ls (by omega) (by omega) (hP.subm [0, 1, 2] rfl) (hD.sub [0, 1, 2] (by decide +kernel) rfl) hS (lv_sub hl [2, 1, 0] rfl)
  have l_l8 : (0 : Int32).toInt = 0 := rfl
  exact L_4 47 0 0 H locs ls (by omega) (by omega) (hP.subm [0, 1, 2] rfl) (hD.sub [0, 1, 2] (by decide +kernel) rfl) hS (lv_sub hl [2, 1, 0] rfl)
theorem dX4_setSpans_0 : decode cX4_setSpans 0 = .ok (.iconst 1, 1) := by decide +kernel
theorem dX4_setSpans_1 : decode cX4_setSpans 1 = .ok (.istore_n 3, 1) := by decide +kernel
theorem dX4_setSpans_2 : decode cX4_setSpans 2 = .ok (.iconst 0, 1) := by decide +kernel
theorem dX4_setSpans_3 : decode cX4_setSpans 3 = .ok (.istore 4, 2) := by decide +kernel
theorem dX4_setSpans_5 : decode cX4_setSpans 5 = .ok (.iload 4, 2) := by decide +kernel
theorem dX4_setSpans_7 : decode cX4_setSpans 7 = .ok (.aload_n 0, 1) := by decide +kernel
theorem dX4_setSpans_8 : decode cX4_setSpans 8 = .ok (.getfield 12, 3) := by decide +kernel
theorem dX4_setSpans_11 : decode cX4_setSpans 11 = .ok (.getfield 109, 3) := by decide +kernel
set_option maxRecDepth 100000 in
theorem wf_X4_109 : Cond.fieldLinkNest RX4 109 "StoneTrust$Village" "stones" "I" "StoneTrust" ∈ nests := nm_ (List.mem_of_getElem? (i := 240) (by decide +kernel)) rfl
theorem dX4_setSpans_14 : decode cX4_setSpans 14 = .ok (.if_icmp .ge 90, 3) := by decide +kernel
theorem dX4_setSpans_104 : decode cX4_setSpans 104 = .ok (.iload_n 3, 1) := by decide +kernel
theorem dX4_setSpans_105 : decode cX4_setSpans 105 = .ok (.ireturn, 1) := by decide +kernel
theorem dX4_setSpans_17 : decode cX4_setSpans 17 = .ok (.aload_n 0, 1) := by decide +kernel
theorem dX4_setSpans_18 : decode cX4_setSpans 18 = .ok (.getfield 12, 3) := by decide +kernel
theorem dX4_setSpans_21 : decode cX4_setSpans 21 = .ok (.getfield 112, 3) := by decide +kernel
set_option maxRecDepth 100000 in
theorem wf_X4_112 : Cond.fieldLinkNest RX4 112 "StoneTrust$Village" "town" "[I" "StoneTrust" ∈ nests := nm_ (List.mem_of_getElem? (i := 248) (by decide +kernel)) rfl
theorem dX4_setSpans_24 : decode cX4_setSpans 24 = .ok (.iload 4, 2) := by decide +kernel
theorem dX4_setSpans_26 : decode cX4_setSpans 26 = .ok (.iaload, 1) := by decide +kernel
theorem dX4_setSpans_27 : decode cX4_setSpans 27 = .ok (.ifCond .ne 7, 3) := by decide +kernel
theorem dX4_setSpans_34 : decode cX4_setSpans 34 = .ok (.iload_n 2, 1) := by decide +kernel
theorem dX4_setSpans_35 : decode cX4_setSpans 35 = .ok (.istore 5, 2) := by decide +kernel
theorem dX4_setSpans_37 : decode cX4_setSpans 37 = .ok (.aload_n 0, 1) := by decide +kernel
theorem dX4_setSpans_38 : decode cX4_setSpans 38 = .ok (.getfield 41, 3) := by decide +kernel
set_option maxRecDepth 100000 in
theorem wf_X4_41 : Cond.fieldLink RX4 41 "StoneTrust$Search" "least" "[I" ∈ gw := gm (List.mem_of_getElem? (i := 416) (by decide +kernel)) rfl
theorem dX4_setSpans_41 : decode cX4_setSpans 41 = .ok (.iload 4, 2) := by decide +kernel
theorem dX4_setSpans_43 : decode cX4_setSpans 43 = .ok (.aload_n 0, 1) := by decide +kernel
theorem dX4_setSpans_44 : decode cX4_setSpans 44 = .ok (.getfield 12, 3) := by decide +kernel
theorem dX4_setSpans_47 : decode cX4_setSpans 47 = .ok (.iload 4, 2) := by decide +kernel
theorem dX4_setSpans_49 : decode cX4_setSpans 49 = .ok (.iload 5, 2) := by decide +kernel
theorem dX4_setSpans_51 : decode cX4_setSpans 51 = .ok (.invokevirtual 115, 3) := by decide +kernel
set_option maxRecDepth 100000 in
theorem wm_X4_115 : Cond.methodLink RX4 115 yX7_leastWeight ∈ gw := gm (List.mem_of_getElem? (i := 836) (by decide +kernel)) rfl
set_option maxRecDepth 100000 in
theorem mi_X7_leastWeight : MI yX7_leastWeight cX7_leastWeight 4 (some .int) 2 := ⟨gm (List.mem_of_getElem? (i := 839) rfl) rfl, gm (List.mem_of_getElem? (i := 113) (by decide +kernel)) rfl, by decide, by decide, by decide +kernel⟩
set_option maxRecDepth 100000 in
theorem in_X7_leastWeight : Cond.instanceMethod yX7_leastWeight ∈ gw := gm (List.mem_of_getElem? (i := 837) (by decide +kernel)) rfl
set_option maxRecDepth 100000 in
theorem se_X7_leastWeight : Cond.selects yX7_leastWeight.cls yX7_leastWeight yX7_leastWeight ∈ gw := gm (List.mem_of_getElem? (i := 838) (by decide +kernel)) rfl
theorem dX4_setSpans_54 : decode cX4_setSpans 54 = .ok (.iastore, 1) := by decide +kernel
theorem dX4_setSpans_55 : decode cX4_setSpans 55 = .ok (.aload_n 0, 1) := by decide +kernel
theorem dX4_setSpans_56 : decode cX4_setSpans 56 = .ok (.getfield 44, 3) := by decide +kernel
set_option maxRecDepth 100000 in
theorem wf_X4_44 : Cond.fieldLink RX4 44 "StoneTrust$Search" "most" "[I" ∈ gw := gm (List.mem_of_getElem? (i := 417) (by decide +kernel)) rfl
theorem dX4_setSpans_59 : decode cX4_setSpans 59 = .ok (.iload 4, 2) := by decide +kernel
theorem dX4_setSpans_61 : decode cX4_setSpans 61 = .ok (.aload_n 0, 1) := by decide +kernel
theorem dX4_setSpans_62 : decode cX4_setSpans 62 = .ok (.getfield 12, 3) := by decide +kernel
theorem dX4_setSpans_65 : decode cX4_setSpans 65 = .ok (.iload 4, 2) := by decide +kernel
theorem dX4_setSpans_67 : decode cX4_setSpans 67 = .ok (.iload 5, 2) := by decide +kernel
theorem dX4_setSpans_69 : decode cX4_setSpans 69 = .ok (.invokevirtual 119, 3) := by decide +kernel
set_option maxRecDepth 100000 in
theorem wm_X4_119 : Cond.methodLink RX4 119 yX7_mostWeight ∈ gw := gm (List.mem_of_getElem? (i := 842) (by decide +kernel)) rfl
set_option maxRecDepth 100000 in
theorem mi_X7_mostWeight : MI yX7_mostWeight cX7_mostWeight 4 (some .int) 2 := ⟨gm (List.mem_of_getElem? (i := 845) rfl) rfl, gm (List.mem_of_getElem? (i := 113) (by decide +kernel)) rfl, by decide, by decide, by decide +kernel⟩
set_option maxRecDepth 100000 in
theorem in_X7_mostWeight : Cond.instanceMethod yX7_mostWeight ∈ gw := gm (List.mem_of_getElem? (i := 843) (by decide +kernel)) rfl
set_option maxRecDepth 100000 in
theorem se_X7_mostWeight : Cond.selects yX7_mostWeight.cls yX7_mostWeight yX7_mostWeight ∈ gw := gm (List.mem_of_getElem? (i := 844) (by decide +kernel)) rfl
theorem dX4_setSpans_72 : decode cX4_setSpans 72 = .ok (.iastore, 1) := by decide +kernel
theorem dX4_setSpans_73 : decode cX4_setSpans 73 = .ok (.iload_n 3, 1) := by decide +kernel
theorem dX4_setSpans_74 : decode cX4_setSpans 74 = .ok (.aload_n 0, 1) := by decide +kernel
theorem dX4_setSpans_75 : decode cX4_setSpans 75 = .ok (.getfield 41, 3) := by decide +kernel
theorem dX4_setSpans_78 : decode cX4_setSpans 78 = .ok (.iload 4, 2) := by decide +kernel
theorem dX4_setSpans_80 : decode cX4_setSpans 80 = .ok (.iaload, 1) := by decide +kernel
theorem dX4_setSpans_81 : decode cX4_setSpans 81 = .ok (.aload_n 0, 1) := by decide +kernel
theorem dX4_setSpans_82 : decode cX4_setSpans 82 = .ok (.getfield 44, 3) := by decide +kernel
theorem dX4_setSpans_85 : decode cX4_setSpans 85 = .ok (.iload 4, 2) := by decide +kernel
theorem dX4_setSpans_87 : decode cX4_setSpans 87 = .ok (.iaload, 1) := by decide +kernel
theorem dX4_setSpans_88 : decode cX4_setSpans 88 = .ok (.if_icmp .gt 7, 3) := by decide +kernel
theorem dX4_setSpans_95 : decode cX4_setSpans 95 = .ok (.iconst 0, 1) := by decide +kernel
theorem dX4_setSpans_96 : decode cX4_setSpans 96 = .ok (.iand, 1) := by decide +kernel
theorem dX4_setSpans_97 : decode cX4_setSpans 97 = .ok (.istore_n 3, 1) := by decide +kernel
theorem dX4_setSpans_98 : decode cX4_setSpans 98 = .ok (.iinc 4 1, 3) := by decide +kernel
theorem dX4_setSpans_101 : decode cX4_setSpans 101 = .ok (.goto (-96), 3) := by decide +kernel
theorem dX4_setSpans_91 : decode cX4_setSpans 91 = .ok (.iconst 1, 1) := by decide +kernel
theorem dX4_setSpans_92 : decode cX4_setSpans 92 = .ok (.goto 4, 3) := by decide +kernel
theorem dX4_setSpans_30 : decode cX4_setSpans 30 = .ok (.iload_n 1, 1) := by decide +kernel
theorem dX4_setSpans_31 : decode cX4_setSpans 31 = .ok (.goto 4, 3) := by decide +kernel
set_option maxHeartbeats 4000000 in
set_option maxRecDepth 100000 in
theorem c83_X4_setSpans (l : Launch) (G : va_G) (cI cJ cB cZ : ClassId) (a0 a1 a2 a3 a4 a5 a6 a7 a8 a9 a10 a11 a12 a13 a14 a15 a16 a17 a18 : Nat) (b1 : Int32) (b2 : Int32) (v_se_7 : Int32) (v_se_8 : Int32) (v_se_9 : Int32) (v_se_10 : Int32) (v_V_0 : Int32) (v_V_1 : Int32) (v_V_2 : Int32) (v_V_5 : Int32) (g_V_town : Nat → Int32) (g_V_says : Nat → Int32) (g_V_off : Nat → Int32) (g_V_masterHigh : Nat → Int32) (g_V_masterLow : Nat → Int32) (g_se_least : Nat → Int32) (g_se_most : Nat → Int32) (hv_0 : 0 ≤ b1.toInt) (hv_1 : b1.toInt ≤ 40) (hv_2 : 0 ≤ b2.toInt) (hv_3 : b2.toInt ≤ 40) (hv_4 : 0 ≤ v_se_8.toInt) (hv_5 : v_se_9.toInt ≤ 2147483646) (hv_6 : 0 ≤ v_V_0.toInt) (hv_7 : v_V_0.toInt ≤ 110) (hv_8 : 0 ≤ v_V_1.toInt) (hv_9 : v_V_1.toInt ≤ 110) (hv_10 : 0 ≤ v_V_5.toInt) (hv_11 : v_V_5.toInt ≤ 6) (hT_g_V_says : TA 0 9 g_V_says) (hT_g_V_off : TA 0 4 g_V_off) (hT_g_se_least : TA 0 2147483647 g_se_least) (hT_g_se_most : TA (-2147483648) 2147483646 g_se_most) : Con l G (TY cI cJ cB cZ) yX4_setSpans cX4_setSpans 6 (some .boolean) ({ frames := 2, cells := 0, slots := 0, locals := 44 } : Room) [.ref a0, .int b1, .int b2] [(a0, .inr (4, [.ref a1, .ref a2, .ref a3, .ref a4, .ref a5, .ref a6, .ref a7, .int v_se_7, .int v_se_8, .int v_se_9, .int v_se_10])), (a1, .inr (7, [.int v_V_0, .int v_V_1, .int v_V_2, .ref a8, .ref a9, .int v_V_5, .ref a10, .ref a11, .ref a12, .ref a13, .ref a14, .ref a15, .ref a16, .ref a17, .ref a18])), (a12, .inl (cI, 6, .inl g_V_town)), (a11, .inl (cI, 6, .inl g_V_says)), (a13, .inl (cI, 6, .inl g_V_off)), (a16, .inl (cI, 6, .inl g_V_masterHigh)), (a15, .inl (cI, 6, .inl g_V_masterLow)), (a6, .inl (cI, 6, .inl g_se_least)), (a7, .inl (cI, 6, .inl g_se_most))] (QI G (TY cI cJ cB cZ) (fun (r : Int32) (u : (Nat → Int32) × (Nat → Int32)) => (0 ≤ r.toInt ∧ r.toInt ≤ 1) ∧ TA 0 2147483647 u.1 ∧ TA (-2147483648) 2147483646 u.2) (fun u : (Nat → Int32) × (Nat → Int32) => [(a0, .inr (4, [.ref a1, .ref a2, .ref a3, .ref a4, .ref a5, .ref a6, .ref a7, .int v_se_7, .int v_se_8, .int v_se_9, .int v_se_10])), (a1, .inr (7, [.int v_V_0, .int v_V_1, .int v_V_2, .ref a8, .ref a9, .int v_V_5, .ref a10, .ref a11, .ref a12, .ref a13, .ref a14, .ref a15, .ref a16, .ref a17, .ref a18])), (a12, .inl (cI, 6, .inl g_V_town)), (a11, .inl (cI, 6, .inl g_V_says)), (a13, .inl (cI, 6, .inl g_V_off)), (a16, .inl (cI, 6, .inl g_V_masterHigh)), (a15, .inl (cI, 6, .inl g_V_masterLow)), (a6, .inl (cI, 6, .inl u.1)), (a7, .inl (cI, 6, .inl u.2))])) := by
  refine k_met (by decide) (Nat.le_of_ble_eq_true rfl) ?_
  intro p e s m below meth c A ls hC hr hlk hnm hN hZ hK hA hP hD hS hl
  have hl : lv_has ls 6 [(0, .ref a0), (1, .int b1), (2, .int b2)] := hl
  generalize hQm : MQ below _ _ s _ _ A = Qm
  generalize (List.toArray _ : Array Value) = args at hC hQm ⊢
  obtain ⟨hx, hb, hml, hown, hts⟩ := id hC
  obtain ⟨H, hH⟩ : ∃ q, q = s.heap := ⟨_, rfl⟩
  obtain ⟨locs, hlo⟩ : ∃ q : List Loc, q = [] := ⟨_, rfl⟩
  have hP : va_P G cl [(a0, .inr (4, [.ref a1, .ref a2, .ref a3, .ref a4, .ref a5, .ref a6, .ref a7, .int v_se_7, .int v_se_8, .int v_se_9, .int v_se_10])), (a1, .inr (7, [.int v_V_0, .int v_V_1, .int v_V_2, .ref a8, .ref a9, .int v_V_5, .ref a10, .ref a11, .ref a12, .ref a13, .ref a14, .ref a15, .ref a16, .ref a17, .ref a18])), (a12, .inl (cI, 6, .inl g_V_town)), (a11, .inl (cI, 6, .inl g_V_says)), (a13, .inl (cI, 6, .inl g_V_off)), (a16, .inl (cI, 6, .inl g_V_masterHigh)), (a15, .inl (cI, 6, .inl g_V_masterLow)), (a6, .inl (cI, 6, .inl g_se_least)), (a7, .inl (cI, 6, .inl g_se_most))] H := by rw [hH]; exact hP
  have hS : va_S A s.heap H locs := by rw [hH, hlo]; exact hS
  rw [← hlo]
  rw [← hH]
  refine lv_iconst (v := 1) hx hb dX4_setSpans_0 (by decide) ?_
  refine lv_istore_n (lv' := [(3, .int 1), (0, .ref a0), (1, .int b1), (2, .int b2)]) hx hb dX4_setSpans_1 rfl hl (by decide) rfl (fun ls hl => ?_)
  refine lv_iconst (v := 0) hx hb dX4_setSpans_2 (by decide) ?_
  refine lv_istore (lv' := [(4, .int 0), (3, .int 1), (0, .ref a0), (1, .int b1), (2, .int b2)]) hx hb dX4_setSpans_3 hl (by decide) rfl (fun ls hl => ?_)
  have L_5 : ∀ (n : Nat) (x1 : Int32) (x2 : Int32) (f3 : Nat → Int32) (f4 : Nat → Int32) (H : Heap) (locs : List Loc) (ls : Array Slot), (0 ≤ x1.toInt ∧ x1.toInt ≤ 6 ∧ 0 ≤ x2.toInt ∧ x2.toInt ≤ 1) → 6 - x1.toInt < (n : Int) → TA 0 2147483647 f3 → TA (-2147483648) 2147483646 f4 → va_P G cl [(a0, .inr (4, [.ref a1, .ref a2, .ref a3, .ref a4, .ref a5, .ref a6, .ref a7, .int v_se_7, .int v_se_8, .int v_se_9, .int v_se_10])), (a1, .inr (7, [.int v_V_0, .int v_V_1, .int v_V_2, .ref a8, .ref a9, .int v_V_5, .ref a10, .ref a11, .ref a12, .ref a13, .ref a14, .ref a15, .ref a16, .ref a17, .ref a18])), (a12, .inl (cI, 6, .inl g_V_town)), (a11, .inl (cI, 6, .inl g_V_says)), (a13, .inl (cI, 6, .inl g_V_off)), (a16, .inl (cI, 6, .inl g_V_masterHigh)), (a15, .inl (cI, 6, .inl g_V_masterLow)), (a6, .inl (cI, 6, .inl f3)), (a7, .inl (cI, 6, .inl f4))] H → va_D A [(a0, .inr (4, [.ref a1, .ref a2, .ref a3, .ref a4, .ref a5, .ref a6, .ref a7, .int v_se_7, .int v_se_8, .int v_se_9, .int v_se_10])), (a1, .inr (7, [.int v_V_0, .int v_V_1, .int v_V_2, .ref a8, .ref a9, .int v_V_5, .ref a10, .ref a11, .ref a12, .ref a13, .ref a14, .ref a15, .ref a16, .ref a17, .ref a18])), (a12, .inl (cI, 6, .inl g_V_town)), (a11, .inl (cI, 6, .inl g_V_says)), (a13, .inl (cI, 6, .inl g_V_off)), (a16, .inl (cI, 6, .inl g_V_masterHigh)), (a15, .inl (cI, 6, .inl g_V_masterLow)), (a6, .inl (cI, 6, .inl f3)), (a7, .inl (cI, 6, .inl f4))] → va_S A s.heap H locs → lv_has ls 6 [(0, .ref a0), (1, .int b1), (2, .int b2), (3, .int x2), (4, .int x1)] → W p l e ({ frames := 2, cells := 0, slots := 0, locals := 44 } : Room) s m args below meth c H locs 0 0 Qm (F0 m 5 ls []) := by
    intro n
    induction n with
    | zero => intro x1 x2 f3 f4 H locs ls hv hm; omega
    | succ n ih =>
      intro x1 x2 f3 f4 H locs ls hv hm hT_f3 hT_f4 hP hD hS hl
      refine lv_iload hx hb dX4_setSpans_5 (lv_at hl 4 rfl) ?_
      refine lv_aload_n hx hb dX4_setSpans_7 rfl (lv_at hl 0 rfl) ?_
      refine k_get hC hK hP iX4 0 0 wf_X4_12 rfl (by decide) rfl rfl dX4_setSpans_8 ?_
      refine k_getN hC hN hK hP iX7 1 5 wf_X4_109 rfl (by decide) rfl rfl dX4_setSpans_11 ?_
      refine lv_icmp_ge (tgt := 104) hx hb dX4_setSpans_14 (by decide) (fun c5 => ?_) (fun c5 => ?_)
      · have dc5 : v_V_5.toInt ≤ x1.toInt := (fa_le _ _).mp c5
        refine lv_iload_n hx hb dX4_setSpans_104 rfl (lv_at hl 3 rfl) ?_
        rw [← hQm]
        exact k_zret hC hr hlk hK hP hD hS (f3, f4) [0, 1, 2, 3, 4, 5, 6, 7, 8] rfl (by decide +kernel) (nar_bool (by omega) (by omega)) ⟨(show 0 ≤ x2.toInt ∧ x2.toInt ≤ 1 from by omega), hT_f3, hT_f4⟩ (Nat.le_of_ble_eq_true rfl) (Nat.le_of_ble_eq_true rfl) dX4_setSpans_105
      · have dc5 : x1.toInt < v_V_5.toInt := fa_nle c5
        refine lv_aload_n hx hb dX4_setSpans_17 rfl (lv_at hl 0 rfl) ?_
        refine k_get hC hK hP iX4 0 0 wf_X4_12 rfl (by decide) rfl rfl dX4_setSpans_18 ?_
        refine k_getN hC hN hK hP iX7 1 8 wf_X4_112 rfl (by decide) rfl rfl dX4_setSpans_21 ?_
        refine lv_iload hx hb dX4_setSpans_24 (lv_at hl 4 rfl) ?_
        refine t_iald hC hK hP 2 rfl (by omega) (by omega) (TA.all _) dX4_setSpans_26 (fun z6 tz6 => ?_)
        refine lv_if_ne (tgt := 34) hx hb dX4_setSpans_27 (by decide) (fun c7 => ?_) (fun c7 => ?_)
        · have dc7 : z6.toInt ≠ 0 := fa_ne c7; have lbc7_0 := i_lo z6; have ubc7_0 := i_hi z6
          refine lv_iload_n hx hb dX4_setSpans_34 rfl (lv_at hl 2 rfl) ?_
          refine lv_istore (lv' := [(5, .int b2), (0, .ref a0), (1, .int b1), (2, .int b2), (3, .int x2), (4, .int x1)]) hx hb dX4_setSpans_35 hl (by decide) rfl (fun ls hl => ?_)
          refine lv_aload_n hx hb dX4_setSpans_37 rfl (lv_at hl 1 rfl) ?_
          refine k_get hC hK hP iX4 0 5 wf_X4_41 rfl (by decide) rfl rfl dX4_setSpans_38 ?_
          refine lv_iload hx hb dX4_setSpans_41 (lv_at hl 5 rfl) ?_
          refine lv_aload_n hx hb dX4_setSpans_43 rfl (lv_at hl 1 rfl) ?_
          refine k_get hC hK hP iX4 0 0 wf_X4_12 rfl (by decide) rfl rfl dX4_setSpans_44 ?_
          refine lv_iload hx hb dX4_setSpans_47 (lv_at hl 5 rfl) ?_
          refine lv_iload hx hb dX4_setSpans_49 (lv_at hl 0 rfl) ?_
          refine k_ci (wr := [(a0, .inr (4, [.ref a1, .ref a2, .ref a3, .ref a4, .ref a5, .ref a6, .ref a7, .int v_se_7, .int v_se_8, .int v_se_9, .int v_se_10])), (a12, .inl (cI, 6, .inl g_V_town)), (a6, .inl (cI, 6, .inl f3)), (a7, .inl (cI, 6, .inl f4))]) (k_rV hC hN hZ hS hA hK hP hD (c28_X7_leastWeight l G cI cJ cB cZ a1 a8 a9 a10 a11 a12 a13 a14 a15 a16 a17 a18 x1 b2 v_V_0 v_V_1 v_V_2 v_V_5 g_V_says g_V_off g_V_masterHigh g_V_masterLow (by omega) (by omega) hv_2 hv_3 hv_6 hv_7 hv_8 hv_9 hv_10 hv_11 hT_g_V_says hT_g_V_off) [1, 3, 4, 5, 6] rfl (by decide +kernel) mi_X7_leastWeight in_X7_leastWeight se_X7_leastWeight wm_X4_115 7 1 rfl rfl rfl hl.1 rfl rfl (Nat.le_of_ble_eq_true rfl) ⟨(Nat.le_of_ble_eq_true rfl), (Nat.le_of_ble_eq_true rfl)⟩ dX4_setSpans_51 ⟨(Nat.le_of_ble_eq_true rfl), (Nat.le_of_ble_eq_true rfl)⟩) hP hD hS hA [1, 3, 4, 5, 6] [0, 2, 7, 8] rfl rfl (by decide +kernel) (by decide +kernel) (fun r8 u8 H locs hp hP hD hS => ?_)
          have hp : (1 ≤ r8.toInt) := hp
          have hP : va_P G cl [(a0, .inr (4, [.ref a1, .ref a2, .ref a3, .ref a4, .ref a5, .ref a6, .ref a7, .int v_se_7, .int v_se_8, .int v_se_9, .int v_se_10])), (a12, .inl (cI, 6, .inl g_V_town)), (a6, .inl (cI, 6, .inl f3)), (a7, .inl (cI, 6, .inl f4)), (a1, .inr (7, [.int v_V_0, .int v_V_1, .int v_V_2, .ref a8, .ref a9, .int v_V_5, .ref a10, .ref a11, .ref a12, .ref a13, .ref a14, .ref a15, .ref a16, .ref a17, .ref a18])), (a11, .inl (cI, 6, .inl g_V_says)), (a13, .inl (cI, 6, .inl g_V_off)), (a16, .inl (cI, 6, .inl g_V_masterHigh)), (a15, .inl (cI, 6, .inl g_V_masterLow))] H := hP
          have hD : va_D A [(a0, .inr (4, [.ref a1, .ref a2, .ref a3, .ref a4, .ref a5, .ref a6, .ref a7, .int v_se_7, .int v_se_8, .int v_se_9, .int v_se_10])), (a12, .inl (cI, 6, .inl g_V_town)), (a6, .inl (cI, 6, .inl f3)), (a7, .inl (cI, 6, .inl f4)), (a1, .inr (7, [.int v_V_0, .int v_V_1, .int v_V_2, .ref a8, .ref a9, .int v_V_5, .ref a10, .ref a11, .ref a12, .ref a13, .ref a14, .ref a15, .ref a16, .ref a17, .ref a18])), (a11, .inl (cI, 6, .inl g_V_says)), (a13, .inl (cI, 6, .inl g_V_off)), (a16, .inl (cI, 6, .inl g_V_masterHigh)), (a15, .inl (cI, 6, .inl g_V_masterLow))] := hD
          have hq8 := hp
          refine t_iast hC hK hP hD hS 2 rfl (by omega) (by omega) hT_f3 (by have p_ := i_lo r8; have q_ := i_hi r8; omega) dX4_setSpans_54 (fun f9 H locs hT_f9 hP hD hS => ?_)
          have hP : va_P G cl [(a0, .inr (4, [.ref a1, .ref a2, .ref a3, .ref a4, .ref a5, .ref a6, .ref a7, .int v_se_7, .int v_se_8, .int v_se_9, .int v_se_10])), (a12, .inl (cI, 6, .inl g_V_town)), (a6, .inl (cI, 6, .inl f9)), (a7, .inl (cI, 6, .inl f4)), (a1, .inr (7, [.int v_V_0, .int v_V_1, .int v_V_2, .ref a8, .ref a9, .int v_V_5, .ref a10, .ref a11, .ref a12, .ref a13, .ref a14, .ref a15, .ref a16, .ref a17, .ref a18])), (a11, .inl (cI, 6, .inl g_V_says)), (a13, .inl (cI, 6, .inl g_V_off)), (a16, .inl (cI, 6, .inl g_V_masterHigh)), (a15, .inl (cI, 6, .inl g_V_masterLow))] H := hP
          have hD : va_D A [(a0, .inr (4, [.ref a1, .ref a2, .ref a3, .ref a4, .ref a5, .ref a6, .ref a7, .int v_se_7, .int v_se_8, .int v_se_9, .int v_se_10])), (a12, .inl (cI, 6, .inl g_V_town)), (a6, .inl (cI, 6, .inl f9)), (a7, .inl (cI, 6, .inl f4)), (a1, .inr (7, [.int v_V_0, .int v_V_1, .int v_V_2, .ref a8, .ref a9, .int v_V_5, .ref a10, .ref a11, .ref a12, .ref a13, .ref a14, .ref a15, .ref a16, .ref a17, .ref a18])), (a11, .inl (cI, 6, .inl g_V_says)), (a13, .inl (cI, 6, .inl g_V_off)), (a16, .inl (cI, 6, .inl g_V_masterHigh)), (a15, .inl (cI, 6, .inl g_V_masterLow))] := hD
          refine lv_aload_n hx hb dX4_setSpans_55 rfl (lv_at hl 1 rfl) ?_
          refine k_get hC hK hP iX4 0 6 wf_X4_44 rfl (by decide) rfl rfl dX4_setSpans_56 ?_
          refine lv_iload hx hb dX4_setSpans_59 (lv_at hl 5 rfl) ?_
          refine lv_aload_n hx hb dX4_setSpans_61 rfl (lv_at hl 1 rfl) ?_
          refine k_get hC hK hP iX4 0 0 wf_X4_12 rfl (by decide) rfl rfl dX4_setSpans_62 ?_
          refine lv_iload hx hb dX4_setSpans_65 (lv_at hl 5 rfl) ?_
          refine lv_iload hx hb dX4_setSpans_67 (lv_at hl 0 rfl) ?_
          refine k_ci (wr := [(a0, .inr (4, [.ref a1, .ref a2, .ref a3, .ref a4, .ref a5, .ref a6, .ref a7, .int v_se_7, .int v_se_8, .int v_se_9, .int v_se_10])), (a12, .inl (cI, 6, .inl g_V_town)), (a6, .inl (cI, 6, .inl f9)), (a7, .inl (cI, 6, .inl f4)), (a15, .inl (cI, 6, .inl g_V_masterLow))]) (k_rV hC hN hZ hS hA hK hP hD (c29_X7_mostWeight l G cI cJ cB cZ a1 a8 a9 a10 a11 a12 a13 a14 a15 a16 a17 a18 x1 b2 v_V_0 v_V_1 v_V_2 v_V_5 g_V_says g_V_off g_V_masterHigh (by omega) (by omega) hv_2 hv_3 hv_6 hv_7 hv_8 hv_9 hv_10 hv_11 hT_g_V_says hT_g_V_off) [4, 5, 6, 7] rfl (by decide +kernel) mi_X7_mostWeight in_X7_mostWeight se_X7_mostWeight wm_X4_119 7 4 rfl rfl rfl hl.1 rfl rfl (Nat.le_of_ble_eq_true rfl) ⟨(Nat.le_of_ble_eq_true rfl), (Nat.le_of_ble_eq_true rfl)⟩ dX4_setSpans_69 ⟨(Nat.le_of_ble_eq_true rfl), (Nat.le_of_ble_eq_true rfl)⟩) hP hD hS hA [4, 5, 6, 7] [0, 1, 2, 3, 8] rfl rfl (by decide +kernel) (by decide +kernel) (fun r10 u10 H locs hp hP hD hS => ?_)
          have hp : (r10.toInt ≤ 364) := hp
          have hP : va_P G cl [(a0, .inr (4, [.ref a1, .ref a2, .ref a3, .ref a4, .ref a5, .ref a6, .ref a7, .int v_se_7, .int v_se_8, .int v_se_9, .int v_se_10])), (a12, .inl (cI, 6, .inl g_V_town)), (a6, .inl (cI, 6, .inl f9)), (a7, .inl (cI, 6, .inl f4)), (a15, .inl (cI, 6, .inl g_V_masterLow)), (a1, .inr (7, [.int v_V_0, .int v_V_1, .int v_V_2, .ref a8, .ref a9, .int v_V_5, .ref a10, .ref a11, .ref a12, .ref a13, .ref a14, .ref a15, .ref a16, .ref a17, .ref a18])), (a11, .inl (cI, 6, .inl g_V_says)), (a13, .inl (cI, 6, .inl g_V_off)), (a16, .inl (cI, 6, .inl g_V_masterHigh))] H := hP
          have hD : va_D A [(a0, .inr (4, [.ref a1, .ref a2, .ref a3, .ref a4, .ref a5, .ref a6, .ref a7, .int v_se_7, .int v_se_8, .int v_se_9, .int v_se_10])), (a12, .inl (cI, 6, .inl g_V_town)), (a6, .inl (cI, 6, .inl f9)), (a7, .inl (cI, 6, .inl f4)), (a15, .inl (cI, 6, .inl g_V_masterLow)), (a1, .inr (7, [.int v_V_0, .int v_V_1, .int v_V_2, .ref a8, .ref a9, .int v_V_5, .ref a10, .ref a11, .ref a12, .ref a13, .ref a14, .ref a15, .ref a16, .ref a17, .ref a18])), (a11, .inl (cI, 6, .inl g_V_says)), (a13, .inl (cI, 6, .inl g_V_off)), (a16, .inl (cI, 6, .inl g_V_masterHigh))] := hD
          have hq10 := hp
          refine t_iast hC hK hP hD hS 3 rfl (by omega) (by omega) hT_f4 (by have p_ := i_lo r10; have q_ := i_hi r10; omega) dX4_setSpans_72 (fun f11 H locs hT_f11 hP hD hS => ?_)
          have hP : va_P G cl [(a0, .inr (4, [.ref a1, .ref a2, .ref a3, .ref a4, .ref a5, .ref a6, .ref a7, .int v_se_7, .int v_se_8, .int v_se_9, .int v_se_10])), (a12, .inl (cI, 6, .inl g_V_town)), (a6, .inl (cI, 6, .inl f9)), (a7, .inl (cI, 6, .inl f11)), (a15, .inl (cI, 6, .inl g_V_masterLow)), (a1, .inr (7, [.int v_V_0, .int v_V_1, .int v_V_2, .ref a8, .ref a9, .int v_V_5, .ref a10, .ref a11, .ref a12, .ref a13, .ref a14, .ref a15, .ref a16, .ref a17, .ref a18])), (a11, .inl (cI, 6, .inl g_V_says)), (a13, .inl (cI, 6, .inl g_V_off)), (a16, .inl (cI, 6, .inl g_V_masterHigh))] H := hP
          have hD : va_D A [(a0, .inr (4, [.ref a1, .ref a2, .ref a3, .ref a4, .ref a5, .ref a6, .ref a7, .int v_se_7, .int v_se_8, .int v_se_9, .int v_se_10])), (a12, .inl (cI, 6, .inl g_V_town)), (a6, .inl (cI, 6, .inl f9)), (a7, .inl (cI, 6, .inl f11)), (a15, .inl (cI, 6, .inl g_V_masterLow)), (a1, .inr (7, [.int v_V_0, .int v_V_1, .int v_V_2, .ref a8, .ref a9, .int v_V_5, .ref a10, .ref a11, .ref a12, .ref a13, .ref a14, .ref a15, .ref a16, .ref a17, .ref a18])), (a11, .inl (cI, 6, .inl g_V_says)), (a13, .inl (cI, 6, .inl g_V_off)), (a16, .inl (cI, 6, .inl g_V_masterHigh))] := hD
          refine lv_iload_n hx hb dX4_setSpans_73 rfl (lv_at hl 4 rfl) ?_
          refine lv_aload_n hx hb dX4_setSpans_74 rfl (lv_at hl 1 rfl) ?_
          refine k_get hC hK hP iX4 0 5 wf_X4_41 rfl (by decide) rfl rfl dX4_setSpans_75 ?_
          refine lv_iload hx hb dX4_setSpans_78 (lv_at hl 5 rfl) ?_
          refine t_iald hC hK hP 2 rfl (by omega) (by omega) hT_f9 dX4_setSpans_80 (fun z12 tz12 => ?_)
          refine lv_aload_n hx hb dX4_setSpans_81 rfl (lv_at hl 1 rfl) ?_
          refine k_get hC hK hP iX4 0 6 wf_X4_44 rfl (by decide) rfl rfl dX4_setSpans_82 ?_
          refine lv_iload hx hb dX4_setSpans_85 (lv_at hl 5 rfl) ?_
          refine t_iald hC hK hP 3 rfl (by omega) (by omega) hT_f11 dX4_setSpans_87 (fun z13 tz13 => ?_)
          refine lv_icmp_gt (tgt := 95) hx hb dX4_setSpans_88 (by decide) (fun c14 => ?_) (fun c14 => ?_)
          · have dc14 : z13.toInt < z12.toInt := (fa_lt _ _).mp c14; have lbc14_0 := i_lo z13; have ubc14_1 := i_hi z12
            refine lv_iconst (v := 0) hx hb dX4_setSpans_95 (by decide) ?_
            refine lv_iand hx hb dX4_setSpans_96 ?_
            refine t_i (fun q => 0 ≤ q.toInt ∧ q.toInt ≤ 0) (by have h_ := and_b (x := x2) (y := 0) (by decide); exact h_) (fun z15 tz15 => ?_)
            refine lv_istore_n (lv' := [(3, .int z15), (5, .int b2), (0, .ref a0), (1, .int b1), (2, .int b2), (4, .int x1)]) hx hb dX4_setSpans_97 rfl hl (by decide) rfl (fun ls hl => ?_)
            obtain ⟨z16, ez16⟩ : ∃ q : Int32, q = x1 + Int32.ofInt 1 := ⟨_, rfl⟩
            have tz16 : z16.toInt = x1.toInt + 1 := by rw [ez16]; exact add_i (y := 1) (by have p_ := i_lo x1; show _ ≤ _ + (1 : Int); omega) (by have q_ := i_hi x1; show _ + (1 : Int) ≤ _; omega)
            refine lv_iinc (v := z16) (lv' := [(4, .int z16), (3, .int z15), (5, .int b2), (0, .ref a0), (1, .int b1), (2, .int b2)]) hx hb dX4_setSpans_98 hl (k := 5) rfl ez16.symm (by decide) rfl (fun ls hl => ?_)
            refine lv_goto (tgt := 5) hx hb dX4_setSpans_101 (by decide) ?_
            exact ih  z16 z15 f9 f11 H locs ls (by omega) (by omega) hT_f9 hT_f11 (hP.subm [0, 5, 1, 6, 7, 8, 4, 2, 3] rfl) (hD.sub [0, 5, 1, 6, 7, 8, 4, 2, 3] (by decide +kernel) rfl) hS (lv_sub hl [3, 4, 5, 1, 0] rfl)
          · have dc14 : z12.toInt ≤ z13.toInt := fa_nlt c14; have lbc14_0 := i_lo z13; have ubc14_1 := i_hi z12
            refine lv_iconst (v := 1) hx hb dX4_setSpans_91 (by decide) ?_
            refine lv_goto (tgt := 96) hx hb dX4_setSpans_92 (by decide) ?_
            refine lv_iand hx hb dX4_setSpans_96 ?_
            refine t_i (fun q => 0 ≤ q.toInt ∧ q.toInt ≤ 1) (by have h_ := and_b (x := x2) (y := 1) (by decide); exact h_) (fun z17 tz17 => ?_)
            refine lv_istore_n (lv' := [(3, .int z17), (5, .int b2), (0, .ref a0), (1, .int b1), (2, .int b2), (4, .int x1)]) hx hb dX4_setSpans_97 rfl hl (by decide) rfl (fun ls hl => ?_)
            obtain ⟨z18, ez18⟩ : ∃ q : Int32, q = x1 + Int32.ofInt 1 := ⟨_, rfl⟩
            have tz18 : z18.toInt = x1.toInt + 1 := by rw [ez18]; exact add_i (y := 1) (by have p_ := i_lo x1; show _ ≤ _ + (1 : Int); omega) (by have q_ := i_hi x1; show _ + (1 : Int) ≤ _; omega)
            refine lv_iinc (v := z18) (lv' := [(4, .int z18), (3, .int z17), (5, .int b2), (0, .ref a0), (1, .int b1), (2, .int b2)]) hx hb dX4_setSpans_98 hl (k := 5) rfl ez18.symm (by decide) rfl (fun ls hl => ?_)
            refine lv_goto (tgt := 5) hx hb dX4_setSpans_101 (by decide) ?_
            exact ih  z18 z17 f9 f11 H locs ls (by omega) (by omega) hT_f9 hT_f11 (hP.subm [0, 5, 1, 6, 7, 8, 4, 2, 3] rfl) (hD.sub [0, 5, 1, 6, 7, 8, 4, 2, 3] (by decide +kernel) rfl) hS (lv_sub hl [3, 4, 5, 1, 0] rfl)
        · have dc7 : z6.toInt = 0 := (fa_eq _ _).mp c7; have lbc7_0 := i_lo z6; have ubc7_0 := i_hi z6
          refine lv_iload_n hx hb dX4_setSpans_30 rfl (lv_at hl 1 rfl) ?_
          refine lv_goto (tgt := 35) hx hb dX4_setSpans_31 (by decide) ?_
          refine lv_istore (lv' := [(5, .int b1), (0, .ref a0), (1, .int b1), (2, .int b2), (3, .int x2), (4, .int x1)]) hx hb dX4_setSpans_35 hl (by decide) rfl (fun ls hl => ?_)
          refine lv_aload_n hx hb dX4_setSpans_37 rfl (lv_at hl 1 rfl) ?_
          refine k_get hC hK hP iX4 0 5 wf_X4_41 rfl (by decide) rfl rfl dX4_setSpans_38 ?_
          refine lv_iload hx hb dX4_setSpans_41 (lv_at hl 5 rfl) ?_
          refine lv_aload_n hx hb dX4_setSpans_43 rfl (lv_at hl 1 rfl) ?_
          refine k_get hC hK hP iX4 0 0 wf_X4_12 rfl (by decide) rfl rfl dX4_setSpans_44 ?_
          refine lv_iload hx hb dX4_setSpans_47 (lv_at hl 5 rfl) ?_
          refine lv_iload hx hb dX4_setSpans_49 (lv_at hl 0 rfl) ?_
          refine k_ci (wr := [(a0, .inr (4, [.ref a1, .ref a2, .ref a3, .ref a4, .ref a5, .ref a6, .ref a7, .int v_se_7, .int v_se_8, .int v_se_9, .int v_se_10])), (a12, .inl (cI, 6, .inl g_V_town)), (a6, .inl (cI, 6, .inl f3)), (a7, .inl (cI, 6, .inl f4))]) (k_rV hC hN hZ hS hA hK hP hD (c28_X7_leastWeight l G cI cJ cB cZ a1 a8 a9 a10 a11 a12 a13 a14 a15 a16 a17 a18 x1 b1 v_V_0 v_V_1 v_V_2 v_V_5 g_V_says g_V_off g_V_masterHigh g_V_masterLow (by omega) (by omega) hv_0 hv_1 hv_6 hv_7 hv_8 hv_9 hv_10 hv_11 hT_g_V_says hT_g_V_off) [1, 3, 4, 5, 6] rfl (by decide +kernel) mi_X7_leastWeight in_X7_leastWeight se_X7_leastWeight wm_X4_115 7 1 rfl rfl rfl hl.1 rfl rfl (Nat.le_of_ble_eq_true rfl) ⟨(Nat.le_of_ble_eq_true rfl), (Nat.le_of_ble_eq_true rfl)⟩ dX4_setSpans_51 ⟨(Nat.le_of_ble_eq_true rfl), (Nat.le_of_ble_eq_true rfl)⟩) hP hD hS hA [1, 3, 4, 5, 6] [0, 2, 7, 8] rfl rfl (by decide +kernel) (by decide +kernel) (fun r19 u19 H locs hp hP hD hS => ?_)
          have hp : (1 ≤ r19.toInt) := hp
          have hP : va_P G cl [(a0, .inr (4, [.ref a1, .ref a2, .ref a3, .ref a4, .ref a5, .ref a6, .ref a7, .int v_se_7, .int v_se_8, .int v_se_9, .int v_se_10])), (a12, .inl (cI, 6, .inl g_V_town)), (a6, .inl (cI, 6, .inl f3)), (a7, .inl (cI, 6, .inl f4)), (a1, .inr (7, [.int v_V_0, .int v_V_1, .int v_V_2, .ref a8, .ref a9, .int v_V_5, .ref a10, .ref a11, .ref a12, .ref a13, .ref a14, .ref a15, .ref a16, .ref a17, .ref a18])), (a11, .inl (cI, 6, .inl g_V_says)), (a13, .inl (cI, 6, .inl g_V_off)), (a16, .inl (cI, 6, .inl g_V_masterHigh)), (a15, .inl (cI, 6, .inl g_V_masterLow))] H := hP
          have hD : va_D A [(a0, .inr (4, [.ref a1, .ref a2, .ref a3, .ref a4, .ref a5, .ref a6, .ref a7, .int v_se_7, .int v_se_8, .int v_se_9, .int v_se_10])), (a12, .inl (cI, 6, .inl g_V_town)), (a6, .inl (cI, 6, .inl f3)), (a7, .inl (cI, 6, .inl f4)), (a1, .inr (7, [.int v_V_0, .int v_V_1, .int v_V_2, .ref a8, .ref a9, .int v_V_5, .ref a10, .ref a11, .ref a12, .ref a13, .ref a14, .ref a15, .ref a16, .ref a17, .ref a18])), (a11, .inl (cI, 6, .inl g_V_says)), (a13, .inl (cI, 6, .inl g_V_off)), (a16, .inl (cI, 6, .inl g_V_masterHigh)), (a15, .inl (cI, 6, .inl g_V_masterLow))] := hD
          have hq19 := hp
          refine t_iast hC hK hP hD hS 2 rfl (by omega) (by omega) hT_f3 (by have p_ := i_lo r19; have q_ := i_hi r19; omega) dX4_setSpans_54 (fun f20 H locs hT_f20 hP hD hS => ?_)
          have hP : va_P G cl [(a0, .inr (4, [.ref a1, .ref a2, .ref a3, .ref a4, .ref a5, .ref a6, .ref a7, .int v_se_7, .int v_se_8, .int v_se_9, .int v_se_10])), (a12, .inl (cI, 6, .inl g_V_town)), (a6, .inl (cI, 6, .inl f20)), (a7, .inl (cI, 6, .inl f4)), (a1, .inr (7, [.int v_V_0, .int v_V_1, .int v_V_2, .ref a8, .ref a9, .int v_V_5, .ref a10, .ref a11, .ref a12, .ref a13, .ref a14, .ref a15, .ref a16, .ref a17, .ref a18])), (a11, .inl (cI, 6, .inl g_V_says)), (a13, .inl (cI, 6, .inl g_V_off)), (a16, .inl (cI, 6, .inl g_V_masterHigh)), (a15, .inl (cI, 6, .inl g_V_masterLow))] H := hP
          have hD : va_D A [(a0, .inr (4, [.ref a1, .ref a2, .ref a3, .ref a4, .ref a5, .ref a6, .ref a7, .int v_se_7, .int v_se_8, .int v_se_9, .int v_se_10])), (a12, .inl (cI, 6, .inl g_V_town)), (a6, .inl (cI, 6, .inl f20)), (a7, .inl (cI, 6, .inl f4)), (a1, .inr (7, [.int v_V_0, .int v_V_1, .int v_V_2, .ref a8, .ref a9, .int v_V_5, .ref a10, .ref a11, .ref a12, .ref a13, .ref a14, .ref a15, .ref a16, .ref a17, .ref a18])), (a11, .inl (cI, 6, .inl g_V_says)), (a13, .inl (cI, 6, .inl g_V_off)), (a16, .inl (cI, 6, .inl g_V_masterHigh)), (a15, .inl (cI, 6, .inl g_V_masterLow))] := hD
          refine lv_aload_n hx hb dX4_setSpans_55 rfl (lv_at hl 1 rfl) ?_
          refine k_get hC hK hP iX4 0 6 wf_X4_44 rfl (by decide) rfl rfl dX4_setSpans_56 ?_
          refine lv_iload hx hb dX4_setSpans_59 (lv_at hl 5 rfl) ?_
          refine lv_aload_n hx hb dX4_setSpans_61 rfl (lv_at hl 1 rfl) ?_
          refine k_get hC hK hP iX4 0 0 wf_X4_12 rfl (by decide) rfl rfl dX4_setSpans_62 ?_
          refine lv_iload hx hb dX4_setSpans_65 (lv_at hl 5 rfl) ?_
          refine lv_iload hx hb dX4_setSpans_67 (lv_at hl 0 rfl) ?_
          refine k_ci (wr := [(a0, .inr (4, [.ref a1, .ref a2, .ref a3, .ref a4, .ref a5, .ref a6, .ref a7, .int v_se_7, .int v_se_8, .int v_se_9, .int v_se_10])), (a12, .inl (cI, 6, .inl g_V_town)), (a6, .inl (cI, 6, .inl f20)), (a7, .inl (cI, 6, .inl f4)), (a15, .inl (cI, 6, .inl g_V_masterLow))]) (k_rV hC hN hZ hS hA hK hP hD (c29_X7_mostWeight l G cI cJ cB cZ a1 a8 a9 a10 a11 a12 a13 a14 a15 a16 a17 a18 x1 b1 v_V_0 v_V_1 v_V_2 v_V_5 g_V_says g_V_off g_V_masterHigh (by omega) (by omega) hv_0 hv_1 hv_6 hv_7 hv_8 hv_9 hv_10 hv_11 hT_g_V_says hT_g_V_off) [4, 5, 6, 7] rfl (by decide +kernel) mi_X7_mostWeight in_X7_mostWeight se_X7_mostWeight wm_X4_119 7 4 rfl rfl rfl hl.1 rfl rfl (Nat.le_of_ble_eq_true rfl) ⟨(Nat.le_of_ble_eq_true rfl), (Nat.le_of_ble_eq_true rfl)⟩ dX4_setSpans_69 ⟨(Nat.le_of_ble_eq_true rfl), (Nat.le_of_ble_eq_true rfl)⟩) hP hD hS hA [4, 5, 6, 7] [0, 1, 2, 3, 8] rfl rfl (by decide +kernel) (by decide +kernel) (fun r21 u21 H locs hp hP hD hS => ?_)
          have hp : (r21.toInt ≤ 364) := hp
          have hP : va_P G cl [(a0, .inr (4, [.ref a1, .ref a2, .ref a3, .ref a4, .ref a5, .ref a6, .ref a7, .int v_se_7, .int v_se_8, .int v_se_9, .int v_se_10])), (a12, .inl (cI, 6, .inl g_V_town)), (a6, .inl (cI, 6, .inl f20)), (a7, .inl (cI, 6, .inl f4)), (a15, .inl (cI, 6, .inl g_V_masterLow)), (a1, .inr (7, [.int v_V_0, .int v_V_1, .int v_V_2, .ref a8, .ref a9, .int v_V_5, .ref a10, .ref a11, .ref a12, .ref a13, .ref a14, .ref a15, .ref a16, .ref a17, .ref a18])), (a11, .inl (cI, 6, .inl g_V_says)), (a13, .inl (cI, 6, .inl g_V_off)), (a16, .inl (cI, 6, .inl g_V_masterHigh))] H := hP
          have hD : va_D A [(a0, .inr (4, [.ref a1, .ref a2, .ref a3, .ref a4, .ref a5, .ref a6, .ref a7, .int v_se_7, .int v_se_8, .int v_se_9, .int v_se_10])), (a12, .inl (cI, 6, .inl g_V_town)), (a6, .inl (cI, 6, .inl f20)), (a7, .inl (cI, 6, .inl f4)), (a15, .inl (cI, 6, .inl g_V_masterLow)), (a1, .inr (7, [.int v_V_0, .int v_V_1, .int v_V_2, .ref a8, .ref a9, .int v_V_5, .ref a10, .ref a11, .ref a12, .ref a13, .ref a14, .ref a15, .ref a16, .ref a17, .ref a18])), (a11, .inl (cI, 6, .inl g_V_says)), (a13, .inl (cI, 6, .inl g_V_off)), (a16, .inl (cI, 6, .inl g_V_masterHigh))] := hD
          have hq21 := hp
          refine t_iast hC hK hP hD hS 3 rfl (by omega) (by omega) hT_f4 (by have p_ := i_lo r21; have q_ := i_hi r21; omega) dX4_setSpans_72 (fun f22 H locs hT_f22 hP hD hS => ?_)
          have hP : va_P G cl [(a0, .inr (4, [.ref a1, .ref a2, .ref a3, .ref a4, .ref a5, .ref a6, .ref a7, .int v_se_7, .int v_se_8, .int v_se_9, .int v_se_10])), (a12, .inl (cI, 6, .inl g_V_town)), (a6, .inl (cI, 6, .inl f20)), (a7, .inl (cI, 6, .inl f22)), (a15, .inl (cI, 6, .inl g_V_masterLow)), (a1, .inr (7, [.int v_V_0, .int v_V_1, .int v_V_2, .ref a8, .ref a9, .int v_V_5, .ref a10, .ref a11, .ref a12, .ref a13, .ref a14, .ref a15, .ref a16, .ref a17, .ref a18])), (a11, .inl (cI, 6, .inl g_V_says)), (a13, .inl (cI, 6, .inl g_V_off)), (a16, .inl (cI, 6, .inl g_V_masterHigh))] H := hP
          have hD : va_D A [(a0, .inr (4, [.ref a1, .ref a2, .ref a3, .ref a4, .ref a5, .ref a6, .ref a7, .int v_se_7, .int v_se_8, .int v_se_9, .int v_se_10])), (a12, .inl (cI, 6, .inl g_V_town)), (a6, .inl (cI, 6, .inl f20)), (a7, .inl (cI, 6, .inl f22)), (a15, .inl (cI, 6, .inl g_V_masterLow)), (a1, .inr (7, [.int v_V_0, .int v_V_1, .int v_V_2, .ref a8, .ref a9, .int v_V_5, .ref a10, .ref a11, .ref a12, .ref a13, .ref a14, .ref a15, .ref a16, .ref a17, .ref a18])), (a11, .inl (cI, 6, .inl g_V_says)), (a13, .inl (cI, 6, .inl g_V_off)), (a16, .inl (cI, 6, .inl g_V_masterHigh))] := hD
          refine lv_iload_n hx hb dX4_setSpans_73 rfl (lv_at hl 4 rfl) ?_
          refine lv_aload_n hx hb dX4_setSpans_74 rfl (lv_at hl 1 rfl) ?_
          refine k_get hC hK hP iX4 0 5 wf_X4_41 rfl (by decide) rfl rfl dX4_setSpans_75 ?_
          refine lv_iload hx hb dX4_setSpans_78 (lv_at hl 5 rfl) ?_
          refine t_iald hC hK hP 2 rfl (by omega) (by omega) hT_f20 dX4_setSpans_80 (fun z23 tz23 => ?_)
          refine lv_aload_n hx hb dX4_setSpans_81 rfl (lv_at hl 1 rfl) ?_
          refine k_get hC hK hP iX4 0 6 wf_X4_44 rfl (by decide) rfl rfl dX4_setSpans_82 ?_
          refine lv_iload hx hb dX4_setSpans_85 (lv_at hl 5 rfl) ?_
          refine t_iald hC hK hP 3 rfl (by omega) (by omega) hT_f22 dX4_setSpans_87 (fun z24 tz24 => ?_)
          refine lv_icmp_gt (tgt := 95) hx hb dX4_setSpans_88 (by decide) (fun c25 => ?_) (fun c25 => ?_)
          · have dc25 : z24.toInt < z23.toInt := (fa_lt _ _).mp c25; have lbc25_0 := i_lo z24; have ubc25_1 := i_hi z23
            refine lv_iconst (v := 0) hx hb dX4_setSpans_95 (by decide) ?_
            refine lv_iand hx hb dX4_setSpans_96 ?_
            refine t_i (fun q => 0 ≤ q.toInt ∧ q.toInt ≤ 0) (by have h_ := and_b (x := x2) (y := 0) (by decide); exact h_) (fun z26 tz26 => ?_)
            refine lv_istore_n (lv' := [(3, .int z26), (5, .int b1), (0, .ref a0), (1, .int b1), (2, .int b2), (4, .int x1)]) hx hb dX4_setSpans_97 rfl hl (by decide) rfl (fun ls hl => ?_)
            obtain ⟨z27, ez27⟩ : ∃ q : Int32, q = x1 + Int32.ofInt 1 := ⟨_, rfl⟩
            have tz27 : z27.toInt = x1.toInt + 1 := by rw [ez27]; exact add_i (y := 1) (by have p_ := i_lo x1; show _ ≤ _ + (1 : Int); omega) (by have q_ := i_hi x1; show _ + (1 : Int) ≤ _; omega)
            refine lv_iinc (v := z27) (lv' := [(4, .int z27), (3, .int z26), (5, .int b1), (0, .ref a0), (1, .int b1), (2, .int b2)]) hx hb dX4_setSpans_98 hl (k := 5) rfl ez27.symm (by decide) rfl (fun ls hl => ?_)
            refine lv_goto (tgt := 5) hx hb dX4_setSpans_101 (by decide) ?_
            exact ih  z27 z26 f20 f22 H locs ls (by omega) (by omega) hT_f20 hT_f22 (hP.subm [0, 5, 1, 6, 7, 8, 4, 2, 3] rfl) (hD.sub [0, 5, 1, 6, 7, 8, 4, 2, 3] (by decide +kernel) rfl) hS (lv_sub hl [3, 4, 5, 1, 0] rfl)
          · have dc25 : z23.toInt ≤ z24.toInt := fa_nlt c25; have lbc25_0 := i_lo z24; have ubc25_1 := i_hi z23
            refine lv_iconst (v := 1) hx hb dX4_setSpans_91 (by decide) ?_
            refine lv_goto (tgt := 96) hx hb dX4_setSpans_92 (by decide) ?_
            refine lv_iand hx hb dX4_setSpans_96 ?_
            refine t_i (fun q => 0 ≤ q.toInt ∧ q.toInt ≤ 1) (by have h_ := and_b (x := x2) (y := 1) (by decide); exact h_) (fun z28 tz28 => ?_)
            refine lv_istore_n (lv' := [(3, .int z28), (5, .int b1), (0, .ref a0), (1, .int b1), (2, .int b2), (4, .int x1)]) hx hb dX4_setSpans_97 rfl hl (by decide) rfl (fun ls hl => ?_)
            obtain ⟨z29, ez29⟩ : ∃ q : Int32, q = x1 + Int32.ofInt 1 := ⟨_, rfl⟩
            have tz29 : z29.toInt = x1.toInt + 1 := by rw [ez29]; exact add_i (y := 1) (by have p_ := i_lo x1; show _ ≤ _ + (1 : Int); omega) (by have q_ := i_hi x1; show _ + (1 : Int) ≤ _; omega)
            refine lv_iinc (v := z29) (lv' := [(4, .int z29), (3, .int z28), (5, .int b1), (0, .ref a0), (1, .int b1), (2, .int b2)]) hx hb dX4_setSpans_98 hl (k := 5) rfl ez29.symm (by decide) rfl (fun ls hl => ?_)
            refine lv_goto (tgt := 5) hx hb dX4_setSpans_101 (by decide) ?_
            exact ih  z29 z28 f20 f22 H locs ls (by omega) (by omega) hT_f20 hT_f22 (hP.subm [0, 5, 1, 6, 7, 8, 4, 2, 3] rfl) (hD.sub [0, 5, 1, 6, 7, 8, 4, 2, 3] (by decide +kernel) rfl) hS (lv_sub hl [3, 4, 5, 1, 0] rfl)
  have l_l30 : (0 : Int32).toInt = 0 := rfl
  have l_l31 : (1 : Int32).toInt = 1 := rfl
  exact L_5 7 0 1 g_se_least g_se_most H locs ls (by omega) (by omega) hT_g_se_least hT_g_se_most (hP.subm [0, 1, 2, 3, 4, 5, 6, 7, 8] rfl) (hD.sub [0, 1, 2, 3, 4, 5, 6, 7, 8] (by decide +kernel) rfl) hS (lv_sub hl [2, 3, 4, 1, 0] rfl)
theorem dX4_laid_0 : decode cX4_laid 0 = .ok (.iconst 0, 1) := by decide +kernel
theorem dX4_laid_1 : decode cX4_laid 1 = .ok (.istore_n 3, 1) := by decide +kernel
theorem dX4_laid_2 : decode cX4_laid 2 = .ok (.iconst 0, 1) := by decide +kernel
theorem dX4_laid_3 : decode cX4_laid 3 = .ok (.istore 4, 2) := by decide +kernel
theorem dX4_laid_5 : decode cX4_laid 5 = .ok (.iload 4, 2) := by decide +kernel
theorem dX4_laid_7 : decode cX4_laid 7 = .ok (.aload_n 0, 1) := by decide +kernel
theorem dX4_laid_8 : decode cX4_laid 8 = .ok (.getfield 12, 3) := by decide +kernel
theorem dX4_laid_11 : decode cX4_laid 11 = .ok (.getfield 109, 3) := by decide +kernel
theorem dX4_laid_14 : decode cX4_laid 14 = .ok (.if_icmp .ge 45, 3) := by decide +kernel
theorem dX4_laid_59 : decode cX4_laid 59 = .ok (.iload_n 3, 1) := by decide +kernel
theorem dX4_laid_60 : decode cX4_laid 60 = .ok (.ireturn, 1) := by decide +kernel
theorem dX4_laid_17 : decode cX4_laid 17 = .ok (.iload_n 1, 1) := by decide +kernel
theorem dX4_laid_18 : decode cX4_laid 18 = .ok (.iload 4, 2) := by decide +kernel
theorem dX4_laid_20 : decode cX4_laid 20 = .ok (.ishr, 1) := by decide +kernel
theorem dX4_laid_21 : decode cX4_laid 21 = .ok (.iconst 1, 1) := by decide +kernel
theorem dX4_laid_22 : decode cX4_laid 22 = .ok (.iand, 1) := by decide +kernel
theorem dX4_laid_23 : decode cX4_laid 23 = .ok (.ifCond .eq 30, 3) := by decide +kernel
theorem dX4_laid_53 : decode cX4_laid 53 = .ok (.iinc 4 1, 3) := by decide +kernel
theorem dX4_laid_56 : decode cX4_laid 56 = .ok (.goto (-51), 3) := by decide +kernel
theorem dX4_laid_26 : decode cX4_laid 26 = .ok (.iload_n 3, 1) := by decide +kernel
theorem dX4_laid_27 : decode cX4_laid 27 = .ok (.iconst 0, 1) := by decide +kernel
theorem dX4_laid_28 : decode cX4_laid 28 = .ok (.aload_n 0, 1) := by decide +kernel
theorem dX4_laid_29 : decode cX4_laid 29 = .ok (.getfield 38, 3) := by decide +kernel
set_option maxRecDepth 100000 in
theorem wf_X4_38 : Cond.fieldLink RX4 38 "StoneTrust$Search" "weight" "[I" ∈ gw := gm (List.mem_of_getElem? (i := 415) (by decide +kernel)) rfl
theorem dX4_laid_32 : decode cX4_laid 32 = .ok (.iload 4, 2) := by decide +kernel
theorem dX4_laid_34 : decode cX4_laid 34 = .ok (.iaload, 1) := by decide +kernel
theorem dX4_laid_35 : decode cX4_laid 35 = .ok (.aload_n 0, 1) := by decide +kernel
theorem dX4_laid_36 : decode cX4_laid 36 = .ok (.getfield 12, 3) := by decide +kernel
theorem dX4_laid_39 : decode cX4_laid 39 = .ok (.getfield 156, 3) := by decide +kernel
set_option maxRecDepth 100000 in
theorem wf_X4_156 : Cond.fieldLinkNest RX4 156 "StoneTrust$Village" "worn" "[I" "StoneTrust" ∈ nests := nm_ (List.mem_of_getElem? (i := 253) (by decide +kernel)) rfl
theorem dX4_laid_42 : decode cX4_laid 42 = .ok (.iload 4, 2) := by decide +kernel
theorem dX4_laid_44 : decode cX4_laid 44 = .ok (.iaload, 1) := by decide +kernel
theorem dX4_laid_45 : decode cX4_laid 45 = .ok (.iload_n 2, 1) := by decide +kernel
theorem dX4_laid_46 : decode cX4_laid 46 = .ok (.imul, 1) := by decide +kernel
theorem dX4_laid_47 : decode cX4_laid 47 = .ok (.isub, 1) := by decide +kernel
theorem dX4_laid_48 : decode cX4_laid 48 = .ok (.invokestatic 148, 3) := by decide +kernel
set_option maxRecDepth 100000 in
theorem wm_X4_148 : Cond.methodLink RX4 148 Lib.Math.max.name ∈ gw := gm (List.mem_of_getElem? (i := 873) (by decide +kernel)) rfl
theorem dX4_laid_51 : decode cX4_laid 51 = .ok (.iadd, 1) := by decide +kernel
theorem dX4_laid_52 : decode cX4_laid 52 = .ok (.istore_n 3, 1) := by decide +kernel
set_option maxHeartbeats 4000000 in
set_option maxRecDepth 100000 in
theorem c84_X4_laid (l : Launch) (G : va_G) (cI cJ cB cZ : ClassId) (a0 a1 a2 a3 a4 a5 a6 a7 a8 a9 a10 a11 a12 a13 a14 a15 a16 a17 a18 : Nat) (b1 : Int32) (b2 : Int32) (v_se_7 : Int32) (v_se_8 : Int32) (v_se_9 : Int32) (v_se_10 : Int32) (v_V_0 : Int32) (v_V_1 : Int32) (v_V_2 : Int32) (v_V_5 : Int32) (g_se_weight : Nat → Int32) (g_V_worn : Nat → Int32) (hv_0 : 0 ≤ v_se_8.toInt) (hv_1 : v_se_9.toInt ≤ 2147483646) (hv_2 : 0 ≤ v_V_0.toInt) (hv_3 : v_V_0.toInt ≤ 110) (hv_4 : 0 ≤ v_V_1.toInt) (hv_5 : v_V_1.toInt ≤ 110) (hv_6 : 0 ≤ v_V_5.toInt) (hv_7 : v_V_5.toInt ≤ 6) : Con l G (TY cI cJ cB cZ) yX4_laid cX4_laid 5 (some .int) ({ frames := 1, cells := 0, slots := 0, locals := 21 } : Room) [.ref a0, .int b1, .int b2] [(a0, .inr (4, [.ref a1, .ref a2, .ref a3, .ref a4, .ref a5, .ref a6, .ref a7, .int v_se_7, .int v_se_8, .int v_se_9, .int v_se_10])), (a1, .inr (7, [.int v_V_0, .int v_V_1, .int v_V_2, .ref a8, .ref a9, .int v_V_5, .ref a10, .ref a11, .ref a12, .ref a13, .ref a14, .ref a15, .ref a16, .ref a17, .ref a18])), (a5, .inl (cI, 6, .inl g_se_weight)), (a14, .inl (cI, 6, .inl g_V_worn))] (QI G (TY cI cJ cB cZ) (fun (r : Int32) (u : Unit) => (True)) (fun u : Unit => [(a0, .inr (4, [.ref a1, .ref a2, .ref a3, .ref a4, .ref a5, .ref a6, .ref a7, .int v_se_7, .int v_se_8, .int v_se_9, .int v_se_10])), (a1, .inr (7, [.int v_V_0, .int v_V_1, .int v_V_2, .ref a8, .ref a9, .int v_V_5, .ref a10, .ref a11, .ref a12, .ref a13, .ref a14, .ref a15, .ref a16, .ref a17, .ref a18])), (a5, .inl (cI, 6, .inl g_se_weight)), (a14, .inl (cI, 6, .inl g_V_worn))])) := by
  refine k_met (by decide) (Nat.le_of_ble_eq_true rfl) ?_
  intro p e s m below meth c A ls hC hr hlk hnm hN hZ hK hA hP hD hS hl
  have hl : lv_has ls 5 [(0, .ref a0), (1, .int b1), (2, .int b2)] := hl
  generalize hQm : MQ below _ _ s _ _ A = Qm
  generalize (List.toArray _ : Array Value) = args at hC hQm ⊢
  obtain ⟨hx, hb, hml, hown, hts⟩ := id hC
  obtain ⟨H, hH⟩ : ∃ q, q = s.heap := ⟨_, rfl⟩
  obtain ⟨locs, hlo⟩ : ∃ q : List Loc, q = [] := ⟨_, rfl⟩
  have hP : va_P G cl [(a0, .inr (4, [.ref a1, .ref a2, .ref a3, .ref a4, .ref a5, .ref a6, .ref a7, .int v_se_7, .int v_se_8, .int v_se_9, .int v_se_10])), (a1, .inr (7, [.int v_V_0, .int v_V_1, .int v_V_2, .ref a8, .ref a9, .int v_V_5, .ref a10, .ref a11, .ref a12, .ref a13, .ref a14, .ref a15, .ref a16, .ref a17, .ref a18])), (a5, .inl (cI, 6, .inl g_se_weight)), (a14, .inl (cI, 6, .inl g_V_worn))] H := by rw [hH]; exact hP
  have hS : va_S A s.heap H locs := by rw [hH, hlo]; exact hS
  rw [← hlo]
  rw [← hH]
  refine lv_iconst (v := 0) hx hb dX4_laid_0 (by decide) ?_
  refine lv_istore_n (lv' := [(3, .int 0), (0, .ref a0), (1, .int b1), (2, .int b2)]) hx hb dX4_laid_1 rfl hl (by decide) rfl (fun ls hl => ?_)
  refine lv_iconst (v := 0) hx hb dX4_laid_2 (by decide) ?_
  refine lv_istore (lv' := [(4, .int 0), (3, .int 0), (0, .ref a0), (1, .int b1), (2, .int b2)]) hx hb dX4_laid_3 hl (by decide) rfl (fun ls hl => ?_)
  have L_5 : ∀ (n : Nat) (x1 : Int32) (x2 : Int32) (H : Heap) (locs : List Loc) (ls : Array Slot), (0 ≤ x1.toInt ∧ x1.toInt ≤ 6) → 6 - x1.toInt < (n : Int) → va_P G cl [(a0, .inr (4, [.ref a1, .ref a2, .ref a3, .ref a4, .ref a5, .ref a6, .ref a7, .int v_se_7, .int v_se_8, .int v_se_9, .int v_se_10])), (a1, .inr (7, [.int v_V_0, .int v_V_1, .int v_V_2, .ref a8, .ref a9, .int v_V_5, .ref a10, .ref a11, .ref a12, .ref a13, .ref a14, .ref a15, .ref a16, .ref a17, .ref a18])), (a5, .inl (cI, 6, .inl g_se_weight)), (a14, .inl (cI, 6, .inl g_V_worn))] H → va_D A [(a0, .inr (4, [.ref a1, .ref a2, .ref a3, .ref a4, .ref a5, .ref a6, .ref a7, .int v_se_7, .int v_se_8, .int v_se_9, .int v_se_10])), (a1, .inr (7, [.int v_V_0, .int v_V_1, .int v_V_2, .ref a8, .ref a9, .int v_V_5, .ref a10, .ref a11, .ref a12, .ref a13, .ref a14, .ref a15, .ref a16, .ref a17, .ref a18])), (a5, .inl (cI, 6, .inl g_se_weight)), (a14, .inl (cI, 6, .inl g_V_worn))] → va_S A s.heap H locs → lv_has ls 5 [(0, .ref a0), (1, .int b1), (2, .int b2), (3, .int x2), (4, .int x1)] → W p l e ({ frames := 1, cells := 0, slots := 0, locals := 21 } : Room) s m args below meth c H locs 0 0 Qm (F0 m 5 ls []) := by
    intro n
    induction n with
    | zero => intro x1 x2 H locs ls hv hm; omega
    | succ n ih =>
      intro x1 x2 H locs ls hv hm hP hD hS hl
      refine lv_iload hx hb dX4_laid_5 (lv_at hl 4 rfl) ?_
      refine lv_aload_n hx hb dX4_laid_7 rfl (lv_at hl 0 rfl) ?_
      refine k_get hC hK hP iX4 0 0 wf_X4_12 rfl (by decide) rfl rfl dX4_laid_8 ?_
      refine k_getN hC hN hK hP iX7 1 5 wf_X4_109 rfl (by decide) rfl rfl dX4_laid_11 ?_
      refine lv_icmp_ge (tgt := 59) hx hb dX4_laid_14 (by decide) (fun c3 => ?_) (fun c3 => ?_)
      · have dc3 : v_V_5.toInt ≤ x1.toInt := (fa_le _ _).mp c3
        refine lv_iload_n hx hb dX4_laid_59 rfl (lv_at hl 3 rfl) ?_
        rw [← hQm]
        exact k_iret hC hr hlk hK hP hD hS () [0, 1, 2, 3] rfl (by decide +kernel) trivial (Nat.le_of_ble_eq_true rfl) (Nat.le_of_ble_eq_true rfl) dX4_laid_60
      · have dc3 : x1.toInt < v_V_5.toInt := fa_nle c3
        refine lv_iload_n hx hb dX4_laid_17 rfl (lv_at hl 1 rfl) ?_
        refine lv_iload hx hb dX4_laid_18 (lv_at hl 4 rfl) ?_
        refine lv_ishr hx hb dX4_laid_20 ?_
        refine lv_topi (fun z4 _ => ?_)
        refine lv_iconst (v := 1) hx hb dX4_laid_21 (by decide) ?_
        refine lv_iand hx hb dX4_laid_22 ?_
        refine t_i (fun q => 0 ≤ q.toInt ∧ q.toInt ≤ 1) (by have h_ := and_b (x := z4) (y := 1) (by decide); exact h_) (fun z5 tz5 => ?_)
        refine lv_if_eq (tgt := 53) hx hb dX4_laid_23 (by decide) (fun c6 => ?_) (fun c6 => ?_)
        · have dc6 : z5.toInt = 0 := (fa_eq _ _).mp c6
          obtain ⟨z7, ez7⟩ : ∃ q : Int32, q = x1 + Int32.ofInt 1 := ⟨_, rfl⟩
          have tz7 : z7.toInt = x1.toInt + 1 := by rw [ez7]; exact add_i (y := 1) (by have p_ := i_lo x1; show _ ≤ _ + (1 : Int); omega) (by have q_ := i_hi x1; show _ + (1 : Int) ≤ _; omega)
          refine lv_iinc (v := z7) (lv' := [(4, .int z7), (0, .ref a0), (1, .int b1), (2, .int b2), (3, .int x2)]) hx hb dX4_laid_53 hl (k := 4) rfl ez7.symm (by decide) rfl (fun ls hl => ?_)
          refine lv_goto (tgt := 5) hx hb dX4_laid_56 (by decide) ?_
          exact ih  z7 x2 H locs ls (by omega) (by omega) (hP.subm [0, 1, 2, 3] rfl) (hD.sub [0, 1, 2, 3] (by decide +kernel) rfl) hS (lv_sub hl [1, 2, 3, 4, 0] rfl)
        · have dc6 : z5.toInt ≠ 0 := fa_ne c6
          refine lv_iload_n hx hb dX4_laid_26 rfl (lv_at hl 3 rfl) ?_
          refine lv_iconst (v := 0) hx hb dX4_laid_27 (by decide) ?_
          refine lv_aload_n hx hb dX4_laid_28 rfl (lv_at hl 0 rfl) ?_
          refine k_get hC hK hP iX4 0 4 wf_X4_38 rfl (by decide) rfl rfl dX4_laid_29 ?_
          refine lv_iload hx hb dX4_laid_32 (lv_at hl 4 rfl) ?_
          refine t_iald hC hK hP 2 rfl (by omega) (by omega) (TA.all _) dX4_laid_34 (fun z8 tz8 => ?_)
          refine lv_aload_n hx hb dX4_laid_35 rfl (lv_at hl 0 rfl) ?_
          refine k_get hC hK hP iX4 0 0 wf_X4_12 rfl (by decide) rfl rfl dX4_laid_36 ?_
          refine k_getN hC hN hK hP iX7 1 10 wf_X4_156 rfl (by decide) rfl rfl dX4_laid_39 ?_
          refine lv_iload hx hb dX4_laid_42 (lv_at hl 4 rfl) ?_
          refine t_iald hC hK hP 3 rfl (by omega) (by omega) (TA.all _) dX4_laid_44 (fun z9 tz9 => ?_)
          refine lv_iload_n hx hb dX4_laid_45 rfl (lv_at hl 2 rfl) ?_
          refine lv_imul hx hb dX4_laid_46 ?_
          refine lv_topi (fun z10 _ => ?_)
          refine lv_isub hx hb dX4_laid_47 ?_
          refine lv_topi (fun z11 _ => ?_)
          refine va_mmax hx hb (hml.trans hl.1.symm) hown (hts _ wm_X4_148) (hts _ st_Mmax) (hts _ ini_Math) (hts _ co_Mmax) (Nat.le_of_ble_eq_true rfl) (Nat.le_of_ble_eq_true rfl) (Nat.le_of_ble_eq_true rfl) (Nat.le_of_ble_eq_true rfl) dX4_laid_48 ?_
          refine t_i (fun q => 0 ≤ q.toInt ∧ z11.toInt ≤ q.toInt ∧ (q.toInt = 0 ∨ q.toInt = z11.toInt)) (max_b 0 z11) (fun z12 tz12 => ?_)
          refine lv_iadd hx hb dX4_laid_51 ?_
          refine lv_topi (fun z13 _ => ?_)
          refine lv_istore_n (lv' := [(3, .int z13), (0, .ref a0), (1, .int b1), (2, .int b2), (4, .int x1)]) hx hb dX4_laid_52 rfl hl (by decide) rfl (fun ls hl => ?_)
          obtain ⟨z14, ez14⟩ : ∃ q : Int32, q = x1 + Int32.ofInt 1 := ⟨_, rfl⟩
          have tz14 : z14.toInt = x1.toInt + 1 := by rw [ez14]; exact add_i (y := 1) (by have p_ := i_lo x1; show _ ≤ _ + (1 : Int); omega) (by have q_ := i_hi x1; show _ + (1 : Int) ≤ _; omega)
          refine lv_iinc (v := z14) (lv' := [(4, .int z14), (3, .int z13), (0, .ref a0), (1, .int b1), (2, .int b2)]) hx hb dX4_laid_53 hl (k := 4) rfl ez14.symm (by decide) rfl (fun ls hl => ?_)
          refine lv_goto (tgt := 5) hx hb dX4_laid_56 (by decide) ?_
          exact ih  z14 z13 H locs ls (by omega) (by omega) (hP.subm [0, 1, 2, 3] rfl) (hD.sub [0, 1, 2, 3] (by decide +kernel) rfl) hS (lv_sub hl [2, 3, 4, 1, 0] rfl)
  have l_l15 : (0 : Int32).toInt = 0 := rfl
  exact L_5 7 0 0 H locs ls (by omega) (by omega) (hP.subm [0, 1, 2, 3] rfl) (hD.sub [0, 1, 2, 3] (by decide +kernel) rfl) hS (lv_sub hl [2, 3, 4, 1, 0] rfl)
theorem dX4_differenceOf_0 : decode cX4_differenceOf 0 = .ok (.aload_n 0, 1) := by decide +kernel
theorem dX4_differenceOf_1 : decode cX4_differenceOf 1 = .ok (.getfield 30, 3) := by decide +kernel
theorem dX4_differenceOf_4 : decode cX4_differenceOf 4 = .ok (.getfield 133, 3) := by decide +kernel
set_option maxRecDepth 100000 in
theorem wf_X4_133 : Cond.fieldLinkNest RX4 133 "StoneTrust$Weighings" "left" "[I" "StoneTrust" ∈ nests := nm_ (List.mem_of_getElem? (i := 151) (by decide +kernel)) rfl
theorem dX4_differenceOf_7 : decode cX4_differenceOf 7 = .ok (.iload_n 1, 1) := by decide +kernel
theorem dX4_differenceOf_8 : decode cX4_differenceOf 8 = .ok (.iaload, 1) := by decide +kernel
theorem dX4_differenceOf_9 : decode cX4_differenceOf 9 = .ok (.iload_n 2, 1) := by decide +kernel
theorem dX4_differenceOf_10 : decode cX4_differenceOf 10 = .ok (.iconst (-1), 1) := by decide +kernel
theorem dX4_differenceOf_11 : decode cX4_differenceOf 11 = .ok (.ixor, 1) := by decide +kernel
theorem dX4_differenceOf_12 : decode cX4_differenceOf 12 = .ok (.iand, 1) := by decide +kernel
theorem dX4_differenceOf_13 : decode cX4_differenceOf 13 = .ok (.istore_n 3, 1) := by decide +kernel
theorem dX4_differenceOf_14 : decode cX4_differenceOf 14 = .ok (.aload_n 0, 1) := by decide +kernel
theorem dX4_differenceOf_15 : decode cX4_differenceOf 15 = .ok (.getfield 30, 3) := by decide +kernel
theorem dX4_differenceOf_18 : decode cX4_differenceOf 18 = .ok (.getfield 170, 3) := by decide +kernel
set_option maxRecDepth 100000 in
theorem wf_X4_170 : Cond.fieldLinkNest RX4 170 "StoneTrust$Weighings" "right" "[I" "StoneTrust" ∈ nests := nm_ (List.mem_of_getElem? (i := 153) (by decide +kernel)) rfl
theorem dX4_differenceOf_21 : decode cX4_differenceOf 21 = .ok (.iload_n 1, 1) := by decide +kernel
theorem dX4_differenceOf_22 : decode cX4_differenceOf 22 = .ok (.iaload, 1) := by decide +kernel
theorem dX4_differenceOf_23 : decode cX4_differenceOf 23 = .ok (.iload_n 2, 1) := by decide +kernel
theorem dX4_differenceOf_24 : decode cX4_differenceOf 24 = .ok (.iconst (-1), 1) := by decide +kernel
theorem dX4_differenceOf_25 : decode cX4_differenceOf 25 = .ok (.ixor, 1) := by decide +kernel
theorem dX4_differenceOf_26 : decode cX4_differenceOf 26 = .ok (.iand, 1) := by decide +kernel
theorem dX4_differenceOf_27 : decode cX4_differenceOf 27 = .ok (.istore 4, 2) := by decide +kernel
theorem dX4_differenceOf_29 : decode cX4_differenceOf 29 = .ok (.bipush 100, 2) := by decide +kernel
theorem dX4_differenceOf_31 : decode cX4_differenceOf 31 = .ok (.aload_n 0, 1) := by decide +kernel
theorem dX4_differenceOf_32 : decode cX4_differenceOf 32 = .ok (.iload_n 3, 1) := by decide +kernel
theorem dX4_differenceOf_33 : decode cX4_differenceOf 33 = .ok (.aload_n 0, 1) := by decide +kernel
theorem dX4_differenceOf_34 : decode cX4_differenceOf 34 = .ok (.getfield 30, 3) := by decide +kernel
theorem dX4_differenceOf_37 : decode cX4_differenceOf 37 = .ok (.getfield 159, 3) := by decide +kernel
set_option maxRecDepth 100000 in
theorem wf_X4_159 : Cond.fieldLinkNest RX4 159 "StoneTrust$Weighings" "year" "[I" "StoneTrust" ∈ nests := nm_ (List.mem_of_getElem? (i := 155) (by decide +kernel)) rfl
theorem dX4_differenceOf_40 : decode cX4_differenceOf 40 = .ok (.iload_n 1, 1) := by decide +kernel
theorem dX4_differenceOf_41 : decode cX4_differenceOf 41 = .ok (.iaload, 1) := by decide +kernel
theorem dX4_differenceOf_42 : decode cX4_differenceOf 42 = .ok (.invokevirtual 173, 3) := by decide +kernel
set_option maxRecDepth 100000 in
theorem wm_X4_173 : Cond.methodLink RX4 173 yX4_laid ∈ gw := gm (List.mem_of_getElem? (i := 869) (by decide +kernel)) rfl
set_option maxRecDepth 100000 in
theorem mi_X4_laid : MI yX4_laid cX4_laid 5 (some .int) 2 := ⟨gm (List.mem_of_getElem? (i := 872) rfl) rfl, gm (List.mem_of_getElem? (i := 120) (by decide +kernel)) rfl, by decide, by decide, by decide +kernel⟩
set_option maxRecDepth 100000 in
theorem in_X4_laid : Cond.instanceMethod yX4_laid ∈ gw := gm (List.mem_of_getElem? (i := 871) (by decide +kernel)) rfl
set_option maxRecDepth 100000 in
theorem se_X4_laid : Cond.selects yX4_laid.cls yX4_laid yX4_laid ∈ gw := gm (List.mem_of_getElem? (i := 30) (by decide +kernel)) rfl
theorem dX4_differenceOf_45 : decode cX4_differenceOf 45 = .ok (.imul, 1) := by decide +kernel
theorem dX4_differenceOf_46 : decode cX4_differenceOf 46 = .ok (.aload_n 0, 1) := by decide +kernel
theorem dX4_differenceOf_47 : decode cX4_differenceOf 47 = .ok (.getfield 47, 3) := by decide +kernel
set_option maxRecDepth 100000 in
theorem wf_X4_47 : Cond.fieldLink RX4 47 "StoneTrust$Search" "arm" "I" ∈ gw := gm (List.mem_of_getElem? (i := 418) (by decide +kernel)) rfl
theorem dX4_differenceOf_50 : decode cX4_differenceOf 50 = .ok (.aload_n 0, 1) := by decide +kernel
theorem dX4_differenceOf_51 : decode cX4_differenceOf 51 = .ok (.iload 4, 2) := by decide +kernel
theorem dX4_differenceOf_53 : decode cX4_differenceOf 53 = .ok (.aload_n 0, 1) := by decide +kernel
theorem dX4_differenceOf_54 : decode cX4_differenceOf 54 = .ok (.getfield 30, 3) := by decide +kernel
theorem dX4_differenceOf_57 : decode cX4_differenceOf 57 = .ok (.getfield 159, 3) := by decide +kernel
theorem dX4_differenceOf_60 : decode cX4_differenceOf 60 = .ok (.iload_n 1, 1) := by decide +kernel
theorem dX4_differenceOf_61 : decode cX4_differenceOf 61 = .ok (.iaload, 1) := by decide +kernel
theorem dX4_differenceOf_62 : decode cX4_differenceOf 62 = .ok (.invokevirtual 173, 3) := by decide +kernel
theorem dX4_differenceOf_65 : decode cX4_differenceOf 65 = .ok (.imul, 1) := by decide +kernel
theorem dX4_differenceOf_66 : decode cX4_differenceOf 66 = .ok (.isub, 1) := by decide +kernel
theorem dX4_differenceOf_67 : decode cX4_differenceOf 67 = .ok (.ireturn, 1) := by decide +kernel
set_option maxHeartbeats 4000000 in
set_option maxRecDepth 100000 in
theorem c85_X4_differenceOf (l : Launch) (G : va_G) (cI cJ cB cZ : ClassId) (a0 a1 a2 a3 a4 a5 a6 a7 a8 a9 a10 a11 a12 a13 a14 a15 a16 a17 a18 a19 a20 a21 a22 a23 a24 a25 : Nat) (b1 : Int32) (b2 : Int32) (v_se_7 : Int32) (v_se_8 : Int32) (v_se_9 : Int32) (v_se_10 : Int32) (v_cn_7 : Int32) (v_V_0 : Int32) (v_V_1 : Int32) (v_V_2 : Int32) (v_V_5 : Int32) (g_cn_left : Nat → Int32) (g_cn_right : Nat → Int32) (g_cn_year : Nat → Int32) (g_se_weight : Nat → Int32) (g_V_worn : Nat → Int32) (hv_0 : 0 ≤ b1.toInt) (hv_1 : b1.toInt ≤ 45) (hv_2 : 0 ≤ v_se_8.toInt) (hv_3 : v_se_9.toInt ≤ 2147483646) (hv_4 : 0 ≤ v_cn_7.toInt) (hv_5 : v_cn_7.toInt ≤ 46) (hv_6 : 0 ≤ v_V_0.toInt) (hv_7 : v_V_0.toInt ≤ 110) (hv_8 : 0 ≤ v_V_1.toInt) (hv_9 : v_V_1.toInt ≤ 110) (hv_10 : 0 ≤ v_V_5.toInt) (hv_11 : v_V_5.toInt ≤ 6) : Con l G (TY cI cJ cB cZ) yX4_differenceOf cX4_differenceOf 5 (some .int) ({ frames := 2, cells := 0, slots := 0, locals := 45 } : Room) [.ref a0, .int b1, .int b2] [(a0, .inr (4, [.ref a1, .ref a2, .ref a3, .ref a4, .ref a5, .ref a6, .ref a7, .int v_se_7, .int v_se_8, .int v_se_9, .int v_se_10])), (a3, .inr (8, [.ref a8, .ref a9, .ref a10, .ref a11, .ref a12, .ref a13, .ref a14, .int v_cn_7])), (a8, .inl (cI, 46, .inl g_cn_left)), (a9, .inl (cI, 46, .inl g_cn_right)), (a10, .inl (cI, 46, .inl g_cn_year)), (a1, .inr (7, [.int v_V_0, .int v_V_1, .int v_V_2, .ref a15, .ref a16, .int v_V_5, .ref a17, .ref a18, .ref a19, .ref a20, .ref a21, .ref a22, .ref a23, .ref a24, .ref a25])), (a5, .inl (cI, 6, .inl g_se_weight)), (a21, .inl (cI, 6, .inl g_V_worn))] (QI G (TY cI cJ cB cZ) (fun (r : Int32) (u : Unit) => (True)) (fun u : Unit => [(a0, .inr (4, [.ref a1, .ref a2, .ref a3, .ref a4, .ref a5, .ref a6, .ref a7, .int v_se_7, .int v_se_8, .int v_se_9, .int v_se_10])), (a3, .inr (8, [.ref a8, .ref a9, .ref a10, .ref a11, .ref a12, .ref a13, .ref a14, .int v_cn_7])), (a8, .inl (cI, 46, .inl g_cn_left)), (a9, .inl (cI, 46, .inl g_cn_right)), (a10, .inl (cI, 46, .inl g_cn_year)), (a1, .inr (7, [.int v_V_0, .int v_V_1, .int v_V_2, .ref a15, .ref a16, .int v_V_5, .ref a17, .ref a18, .ref a19, .ref a20, .ref a21, .ref a22, .ref a23, .ref a24, .ref a25])), (a5, .inl (cI, 6, .inl g_se_weight)), (a21, .inl (cI, 6, .inl g_V_worn))])) := by
  refine k_met (by decide) (Nat.le_of_ble_eq_true rfl) ?_
  intro p e s m below meth c A ls hC hr hlk hnm hN hZ hK hA hP hD hS hl
  have hl : lv_has ls 5 [(0, .ref a0), (1, .int b1), (2, .int b2)] := hl
  generalize hQm : MQ below _ _ s _ _ A = Qm
  generalize (List.toArray _ : Array Value) = args at hC hQm ⊢
  obtain ⟨hx, hb, hml, hown, hts⟩ := id hC
  obtain ⟨H, hH⟩ : ∃ q, q = s.heap := ⟨_, rfl⟩
  obtain ⟨locs, hlo⟩ : ∃ q : List Loc, q = [] := ⟨_, rfl⟩
  have hP : va_P G cl [(a0, .inr (4, [.ref a1, .ref a2, .ref a3, .ref a4, .ref a5, .ref a6, .ref a7, .int v_se_7, .int v_se_8, .int v_se_9, .int v_se_10])), (a3, .inr (8, [.ref a8, .ref a9, .ref a10, .ref a11, .ref a12, .ref a13, .ref a14, .int v_cn_7])), (a8, .inl (cI, 46, .inl g_cn_left)), (a9, .inl (cI, 46, .inl g_cn_right)), (a10, .inl (cI, 46, .inl g_cn_year)), (a1, .inr (7, [.int v_V_0, .int v_V_1, .int v_V_2, .ref a15, .ref a16, .int v_V_5, .ref a17, .ref a18, .ref a19, .ref a20, .ref a21, .ref a22, .ref a23, .ref a24, .ref a25])), (a5, .inl (cI, 6, .inl g_se_weight)), (a21, .inl (cI, 6, .inl g_V_worn))] H := by rw [hH]; exact hP
  have hS : va_S A s.heap H locs := by rw [hH, hlo]; exact hS
  rw [← hlo]
  rw [← hH]
  refine lv_aload_n hx hb dX4_differenceOf_0 rfl (lv_at hl 0 rfl) ?_
  refine k_get hC hK hP iX4 0 2 wf_X4_30 rfl (by decide) rfl rfl dX4_differenceOf_1 ?_
  refine k_getN hC hN hK hP iX8 1 0 wf_X4_133 rfl (by decide) rfl rfl dX4_differenceOf_4 ?_
  refine lv_iload_n hx hb dX4_differenceOf_7 rfl (lv_at hl 1 rfl) ?_
  refine t_iald hC hK hP 2 rfl (by omega) (by omega) (TA.all _) dX4_differenceOf_8 (fun z1 tz1 => ?_)
  refine lv_iload_n hx hb dX4_differenceOf_9 rfl (lv_at hl 2 rfl) ?_
  refine lv_iconst (v := (-1)) hx hb dX4_differenceOf_10 (by decide) ?_
  refine lv_ixor hx hb dX4_differenceOf_11 ?_
  refine lv_topi (fun z2 _ => ?_)
  refine lv_iand hx hb dX4_differenceOf_12 ?_
  refine lv_topi (fun z3 _ => ?_)
  refine lv_istore_n (lv' := [(3, .int z3), (0, .ref a0), (1, .int b1), (2, .int b2)]) hx hb dX4_differenceOf_13 rfl hl (by decide) rfl (fun ls hl => ?_)
  refine lv_aload_n hx hb dX4_differenceOf_14 rfl (lv_at hl 1 rfl) ?_
  refine k_get hC hK hP iX4 0 2 wf_X4_30 rfl (by decide) rfl rfl dX4_differenceOf_15 ?_
  refine k_getN hC hN hK hP iX8 1 1 wf_X4_170 rfl (by decide) rfl rfl dX4_differenceOf_18 ?_
  refine lv_iload_n hx hb dX4_differenceOf_21 rfl (lv_at hl 2 rfl) ?_
  refine t_iald hC hK hP 3 rfl (by omega) (by omega) (TA.all _) dX4_differenceOf_22 (fun z4 tz4 => ?_)
  refine lv_iload_n hx hb dX4_differenceOf_23 rfl (lv_at hl 3 rfl) ?_
  refine lv_iconst (v := (-1)) hx hb dX4_differenceOf_24 (by decide) ?_
  refine lv_ixor hx hb dX4_differenceOf_25 ?_
  refine lv_topi (fun z5 _ => ?_)
  refine lv_iand hx hb dX4_differenceOf_26 ?_
  refine lv_topi (fun z6 _ => ?_)
  refine lv_istore (lv' := [(4, .int z6), (3, .int z3), (0, .ref a0), (1, .int b1), (2, .int b2)]) hx hb dX4_differenceOf_27 hl (by decide) rfl (fun ls hl => ?_)
  refine lv_bipush (v := 100) hx hb dX4_differenceOf_29 (by decide) ?_
  refine lv_aload_n hx hb dX4_differenceOf_31 rfl (lv_at hl 2 rfl) ?_
  refine lv_iload_n hx hb dX4_differenceOf_32 rfl (lv_at hl 1 rfl) ?_
  refine lv_aload_n hx hb dX4_differenceOf_33 rfl (lv_at hl 2 rfl) ?_
  refine k_get hC hK hP iX4 0 2 wf_X4_30 rfl (by decide) rfl rfl dX4_differenceOf_34 ?_
  refine k_getN hC hN hK hP iX8 1 2 wf_X4_159 rfl (by decide) rfl rfl dX4_differenceOf_37 ?_
  refine lv_iload_n hx hb dX4_differenceOf_40 rfl (lv_at hl 3 rfl) ?_
  refine t_iald hC hK hP 4 rfl (by omega) (by omega) (TA.all _) dX4_differenceOf_41 (fun z7 tz7 => ?_)
  refine k_ci (wr := [(a3, .inr (8, [.ref a8, .ref a9, .ref a10, .ref a11, .ref a12, .ref a13, .ref a14, .int v_cn_7])), (a8, .inl (cI, 46, .inl g_cn_left)), (a9, .inl (cI, 46, .inl g_cn_right)), (a10, .inl (cI, 46, .inl g_cn_year))]) (k_rV hC hN hZ hS hA hK hP hD (c84_X4_laid l G cI cJ cB cZ a0 a1 a2 a3 a4 a5 a6 a7 a15 a16 a17 a18 a19 a20 a21 a22 a23 a24 a25 z3 z7 v_se_7 v_se_8 v_se_9 v_se_10 v_V_0 v_V_1 v_V_2 v_V_5 g_se_weight g_V_worn hv_2 hv_3 hv_6 hv_7 hv_8 hv_9 hv_10 hv_11) [0, 5, 6, 7] rfl (by decide +kernel) mi_X4_laid in_X4_laid se_X4_laid wm_X4_173 4 0 rfl rfl rfl hl.1 rfl rfl (Nat.le_of_ble_eq_true rfl) ⟨(Nat.le_of_ble_eq_true rfl), (Nat.le_of_ble_eq_true rfl)⟩ dX4_differenceOf_42 ⟨(Nat.le_of_ble_eq_true rfl), (Nat.le_of_ble_eq_true rfl)⟩) hP hD hS hA [0, 5, 6, 7] [1, 2, 3, 4] rfl rfl (by decide +kernel) (by decide +kernel) (fun r8 u8 H locs hp hP hD hS => ?_)
  have hp : (True) := hp
  have hP : va_P G cl [(a3, .inr (8, [.ref a8, .ref a9, .ref a10, .ref a11, .ref a12, .ref a13, .ref a14, .int v_cn_7])), (a8, .inl (cI, 46, .inl g_cn_left)), (a9, .inl (cI, 46, .inl g_cn_right)), (a10, .inl (cI, 46, .inl g_cn_year)), (a0, .inr (4, [.ref a1, .ref a2, .ref a3, .ref a4, .ref a5, .ref a6, .ref a7, .int v_se_7, .int v_se_8, .int v_se_9, .int v_se_10])), (a1, .inr (7, [.int v_V_0, .int v_V_1, .int v_V_2, .ref a15, .ref a16, .int v_V_5, .ref a17, .ref a18, .ref a19, .ref a20, .ref a21, .ref a22, .ref a23, .ref a24, .ref a25])), (a5, .inl (cI, 6, .inl g_se_weight)), (a21, .inl (cI, 6, .inl g_V_worn))] H := hP
  have hD : va_D A [(a3, .inr (8, [.ref a8, .ref a9, .ref a10, .ref a11, .ref a12, .ref a13, .ref a14, .int v_cn_7])), (a8, .inl (cI, 46, .inl g_cn_left)), (a9, .inl (cI, 46, .inl g_cn_right)), (a10, .inl (cI, 46, .inl g_cn_year)), (a0, .inr (4, [.ref a1, .ref a2, .ref a3, .ref a4, .ref a5, .ref a6, .ref a7, .int v_se_7, .int v_se_8, .int v_se_9, .int v_se_10])), (a1, .inr (7, [.int v_V_0, .int v_V_1, .int v_V_2, .ref a15, .ref a16, .int v_V_5, .ref a17, .ref a18, .ref a19, .ref a20, .ref a21, .ref a22, .ref a23, .ref a24, .ref a25])), (a5, .inl (cI, 6, .inl g_se_weight)), (a21, .inl (cI, 6, .inl g_V_worn))] := hD
  have hq8 := hp
  refine lv_imul hx hb dX4_differenceOf_45 ?_
  refine lv_topi (fun z9 _ => ?_)
  refine lv_aload_n hx hb dX4_differenceOf_46 rfl (lv_at hl 2 rfl) ?_
  refine k_get hC hK hP iX4 4 7 wf_X4_47 rfl (by decide) rfl rfl dX4_differenceOf_47 ?_
  refine lv_aload_n hx hb dX4_differenceOf_50 rfl (lv_at hl 2 rfl) ?_
  refine lv_iload hx hb dX4_differenceOf_51 (lv_at hl 0 rfl) ?_
  refine lv_aload_n hx hb dX4_differenceOf_53 rfl (lv_at hl 2 rfl) ?_
  refine k_get hC hK hP iX4 4 2 wf_X4_30 rfl (by decide) rfl rfl dX4_differenceOf_54 ?_
  refine k_getN hC hN hK hP iX8 0 2 wf_X4_159 rfl (by decide) rfl rfl dX4_differenceOf_57 ?_
  refine lv_iload_n hx hb dX4_differenceOf_60 rfl (lv_at hl 3 rfl) ?_
  refine t_iald hC hK hP 3 rfl (by omega) (by omega) (TA.all _) dX4_differenceOf_61 (fun z10 tz10 => ?_)
  refine k_ci (wr := [(a3, .inr (8, [.ref a8, .ref a9, .ref a10, .ref a11, .ref a12, .ref a13, .ref a14, .int v_cn_7])), (a8, .inl (cI, 46, .inl g_cn_left)), (a9, .inl (cI, 46, .inl g_cn_right)), (a10, .inl (cI, 46, .inl g_cn_year))]) (k_rV hC hN hZ hS hA hK hP hD (c84_X4_laid l G cI cJ cB cZ a0 a1 a2 a3 a4 a5 a6 a7 a15 a16 a17 a18 a19 a20 a21 a22 a23 a24 a25 z6 z10 v_se_7 v_se_8 v_se_9 v_se_10 v_V_0 v_V_1 v_V_2 v_V_5 g_se_weight g_V_worn hv_2 hv_3 hv_6 hv_7 hv_8 hv_9 hv_10 hv_11) [4, 5, 6, 7] rfl (by decide +kernel) mi_X4_laid in_X4_laid se_X4_laid wm_X4_173 4 4 rfl rfl rfl hl.1 rfl rfl (Nat.le_of_ble_eq_true rfl) ⟨(Nat.le_of_ble_eq_true rfl), (Nat.le_of_ble_eq_true rfl)⟩ dX4_differenceOf_62 ⟨(Nat.le_of_ble_eq_true rfl), (Nat.le_of_ble_eq_true rfl)⟩) hP hD hS hA [4, 5, 6, 7] [0, 1, 2, 3] rfl rfl (by decide +kernel) (by decide +kernel) (fun r11 u11 H locs hp hP hD hS => ?_)
  have hp : (True) := hp
  have hP : va_P G cl [(a3, .inr (8, [.ref a8, .ref a9, .ref a10, .ref a11, .ref a12, .ref a13, .ref a14, .int v_cn_7])), (a8, .inl (cI, 46, .inl g_cn_left)), (a9, .inl (cI, 46, .inl g_cn_right)), (a10, .inl (cI, 46, .inl g_cn_year)), (a0, .inr (4, [.ref a1, .ref a2, .ref a3, .ref a4, .ref a5, .ref a6, .ref a7, .int v_se_7, .int v_se_8, .int v_se_9, .int v_se_10])), (a1, .inr (7, [.int v_V_0, .int v_V_1, .int v_V_2, .ref a15, .ref a16, .int v_V_5, .ref a17, .ref a18, .ref a19, .ref a20, .ref a21, .ref a22, .ref a23, .ref a24, .ref a25])), (a5, .inl (cI, 6, .inl g_se_weight)), (a21, .inl (cI, 6, .inl g_V_worn))] H := hP
  have hD : va_D A [(a3, .inr (8, [.ref a8, .ref a9, .ref a10, .ref a11, .ref a12, .ref a13, .ref a14, .int v_cn_7])), (a8, .inl (cI, 46, .inl g_cn_left)), (a9, .inl (cI, 46, .inl g_cn_right)), (a10, .inl (cI, 46, .inl g_cn_year)), (a0, .inr (4, [.ref a1, .ref a2, .ref a3, .ref a4, .ref a5, .ref a6, .ref a7, .int v_se_7, .int v_se_8, .int v_se_9, .int v_se_10])), (a1, .inr (7, [.int v_V_0, .int v_V_1, .int v_V_2, .ref a15, .ref a16, .int v_V_5, .ref a17, .ref a18, .ref a19, .ref a20, .ref a21, .ref a22, .ref a23, .ref a24, .ref a25])), (a5, .inl (cI, 6, .inl g_se_weight)), (a21, .inl (cI, 6, .inl g_V_worn))] := hD
  have hq11 := hp
  refine lv_imul hx hb dX4_differenceOf_65 ?_
  refine lv_topi (fun z12 _ => ?_)
  refine lv_isub hx hb dX4_differenceOf_66 ?_
  refine lv_topi (fun z13 _ => ?_)
  rw [← hQm]
  exact k_iret hC hr hlk hK hP hD hS () [4, 0, 1, 2, 3, 5, 6, 7] rfl (by decide +kernel) trivial (Nat.le_of_ble_eq_true rfl) (Nat.le_of_ble_eq_true rfl) dX4_differenceOf_67
theorem dX4_mostShowing_0 : decode cX4_mostShowing 0 = .ok (.iload_n 1, 1) := by decide +kernel
theorem dX4_mostShowing_1 : decode cX4_mostShowing 1 = .ok (.iconst 1, 1) := by decide +kernel
theorem dX4_mostShowing_2 : decode cX4_mostShowing 2 = .ok (.if_icmp .ne 16, 3) := by decide +kernel
theorem dX4_mostShowing_18 : decode cX4_mostShowing 18 = .ok (.iload_n 1, 1) := by decide +kernel
theorem dX4_mostShowing_19 : decode cX4_mostShowing 19 = .ok (.ifCond .ne 8, 3) := by decide +kernel
theorem dX4_mostShowing_27 : decode cX4_mostShowing 27 = .ok (.bipush 100, 2) := by decide +kernel
theorem dX4_mostShowing_29 : decode cX4_mostShowing 29 = .ok (.aload_n 0, 1) := by decide +kernel
theorem dX4_mostShowing_30 : decode cX4_mostShowing 30 = .ok (.getfield 12, 3) := by decide +kernel
theorem dX4_mostShowing_33 : decode cX4_mostShowing 33 = .ok (.getfield 165, 3) := by decide +kernel
set_option maxRecDepth 100000 in
theorem wf_X4_165 : Cond.fieldLinkNest RX4 165 "StoneTrust$Village" "feel" "I" "StoneTrust" ∈ nests := nm_ (List.mem_of_getElem? (i := 231) (by decide +kernel)) rfl
theorem dX4_mostShowing_36 : decode cX4_mostShowing 36 = .ok (.imul, 1) := by decide +kernel
theorem dX4_mostShowing_37 : decode cX4_mostShowing 37 = .ok (.ireturn, 1) := by decide +kernel
theorem dX4_mostShowing_22 : decode cX4_mostShowing 22 = .ok (.ldc 169, 2) := by decide +kernel
set_option maxRecDepth 100000 in
theorem kc_X4_169 : Cond.constant RX4 169 10000000 ∈ gw := gm (List.mem_of_getElem? (i := 918) (by decide +kernel)) rfl
theorem dX4_mostShowing_24 : decode cX4_mostShowing 24 = .ok (.goto 13, 3) := by decide +kernel
theorem dX4_mostShowing_5 : decode cX4_mostShowing 5 = .ok (.bipush (-100), 2) := by decide +kernel
theorem dX4_mostShowing_7 : decode cX4_mostShowing 7 = .ok (.aload_n 0, 1) := by decide +kernel
theorem dX4_mostShowing_8 : decode cX4_mostShowing 8 = .ok (.getfield 12, 3) := by decide +kernel
theorem dX4_mostShowing_11 : decode cX4_mostShowing 11 = .ok (.getfield 165, 3) := by decide +kernel
theorem dX4_mostShowing_14 : decode cX4_mostShowing 14 = .ok (.imul, 1) := by decide +kernel
theorem dX4_mostShowing_15 : decode cX4_mostShowing 15 = .ok (.iconst 1, 1) := by decide +kernel
theorem dX4_mostShowing_16 : decode cX4_mostShowing 16 = .ok (.isub, 1) := by decide +kernel
theorem dX4_mostShowing_17 : decode cX4_mostShowing 17 = .ok (.ireturn, 1) := by decide +kernel
set_option maxHeartbeats 4000000 in
set_option maxRecDepth 100000 in
theorem c86_X4_mostShowing (l : Launch) (G : va_G) (cI cJ cB cZ : ClassId) (a0 a1 a2 a3 a4 a5 a6 a7 a8 a9 a10 a11 a12 a13 a14 a15 a16 a17 a18 : Nat) (b1 : Int32) (v_se_7 : Int32) (v_se_8 : Int32) (v_se_9 : Int32) (v_se_10 : Int32) (v_V_0 : Int32) (v_V_1 : Int32) (v_V_2 : Int32) (v_V_5 : Int32) (hv_0 : 0 ≤ v_se_8.toInt) (hv_1 : v_se_9.toInt ≤ 2147483646) (hv_2 : 0 ≤ v_V_0.toInt) (hv_3 : v_V_0.toInt ≤ 110) (hv_4 : 0 ≤ v_V_1.toInt) (hv_5 : v_V_1.toInt ≤ 110) (hv_6 : 0 ≤ v_V_5.toInt) (hv_7 : v_V_5.toInt ≤ 6) : Con l G (TY cI cJ cB cZ) yX4_mostShowing cX4_mostShowing 2 (some .int) ({ frames := 0, cells := 0, slots := 0, locals := 0 } : Room) [.ref a0, .int b1] [(a0, .inr (4, [.ref a1, .ref a2, .ref a3, .ref a4, .ref a5, .ref a6, .ref a7, .int v_se_7, .int v_se_8, .int v_se_9, .int v_se_10])), (a1, .inr (7, [.int v_V_0, .int v_V_1, .int v_V_2, .ref a8, .ref a9, .int v_V_5, .ref a10, .ref a11, .ref a12, .ref a13, .ref a14, .ref a15, .ref a16, .ref a17, .ref a18]))] (QI G (TY cI cJ cB cZ) (fun (r : Int32) (u : Unit) => (True)) (fun u : Unit => [(a0, .inr (4, [.ref a1, .ref a2, .ref a3, .ref a4, .ref a5, .ref a6, .ref a7, .int v_se_7, .int v_se_8, .int v_se_9, .int v_se_10])), (a1, .inr (7, [.int v_V_0, .int v_V_1, .int v_V_2, .ref a8, .ref a9, .int v_V_5, .ref a10, .ref a11, .ref a12, .ref a13, .ref a14, .ref a15, .ref a16, .ref a17, .ref a18]))])) := by
  refine k_met (by decide) (Nat.le_of_ble_eq_true rfl) ?_
  intro p e s m below meth c A ls hC hr hlk hnm hN hZ hK hA hP hD hS hl
  have hl : lv_has ls 2 [(0, .ref a0), (1, .int b1)] := hl
  generalize hQm : MQ below _ _ s _ _ A = Qm
  generalize (List.toArray _ : Array Value) = args at hC hQm ⊢
  obtain ⟨hx, hb, hml, hown, hts⟩ := id hC
  obtain ⟨H, hH⟩ : ∃ q, q = s.heap := ⟨_, rfl⟩
  obtain ⟨locs, hlo⟩ : ∃ q : List Loc, q = [] := ⟨_, rfl⟩
  have hP : va_P G cl [(a0, .inr (4, [.ref a1, .ref a2, .ref a3, .ref a4, .ref a5, .ref a6, .ref a7, .int v_se_7, .int v_se_8, .int v_se_9, .int v_se_10])), (a1, .inr (7, [.int v_V_0, .int v_V_1, .int v_V_2, .ref a8, .ref a9, .int v_V_5, .ref a10, .ref a11, .ref a12, .ref a13, .ref a14, .ref a15, .ref a16, .ref a17, .ref a18]))] H := by rw [hH]; exact hP
  have hS : va_S A s.heap H locs := by rw [hH, hlo]; exact hS
  rw [← hlo]
  rw [← hH]
  refine lv_iload_n hx hb dX4_mostShowing_0 rfl (lv_at hl 1 rfl) ?_
  refine lv_iconst (v := 1) hx hb dX4_mostShowing_1 (by decide) ?_
  refine lv_icmp_ne (tgt := 18) hx hb dX4_mostShowing_2 (by decide) (fun c1 => ?_) (fun c1 => ?_)
  · have dc1 : b1.toInt ≠ 1 := fa_ne c1; have lbc1_0 := i_lo b1; have ubc1_0 := i_hi b1
    refine lv_iload_n hx hb dX4_mostShowing_18 rfl (lv_at hl 1 rfl) ?_
    refine lv_if_ne (tgt := 27) hx hb dX4_mostShowing_19 (by decide) (fun c2 => ?_) (fun c2 => ?_)
    · have dc2 : b1.toInt ≠ 0 := fa_ne c2; have lbc2_0 := i_lo b1; have ubc2_0 := i_hi b1
      refine lv_bipush (v := 100) hx hb dX4_mostShowing_27 (by decide) ?_
      refine lv_aload_n hx hb dX4_mostShowing_29 rfl (lv_at hl 0 rfl) ?_
      refine k_get hC hK hP iX4 0 0 wf_X4_12 rfl (by decide) rfl rfl dX4_mostShowing_30 ?_
      refine k_getN hC hN hK hP iX7 1 2 wf_X4_165 rfl (by decide) rfl rfl dX4_mostShowing_33 ?_
      refine lv_imul hx hb dX4_mostShowing_36 ?_
      refine lv_topi (fun z3 _ => ?_)
      rw [← hQm]
      exact k_iret hC hr hlk hK hP hD hS () [0, 1] rfl (by decide +kernel) trivial (Nat.le_of_ble_eq_true rfl) (Nat.le_of_ble_eq_true rfl) dX4_mostShowing_37
    · have dc2 : b1.toInt = 0 := (fa_eq _ _).mp c2; have lbc2_0 := i_lo b1; have ubc2_0 := i_hi b1
      refine lv_ldc (v := 10000000) hx hb hown (hts _ kc_X4_169) dX4_mostShowing_22 ?_
      refine lv_goto (tgt := 37) hx hb dX4_mostShowing_24 (by decide) ?_
      have l_l4 : (10000000 : Int32).toInt = 10000000 := rfl
      rw [← hQm]
      exact k_iret hC hr hlk hK hP hD hS () [0, 1] rfl (by decide +kernel) trivial (Nat.le_of_ble_eq_true rfl) (Nat.le_of_ble_eq_true rfl) dX4_mostShowing_37
  · have dc1 : b1.toInt = 1 := (fa_eq _ _).mp c1; have lbc1_0 := i_lo b1; have ubc1_0 := i_hi b1
    refine lv_bipush (v := (-100)) hx hb dX4_mostShowing_5 (by decide) ?_
    refine lv_aload_n hx hb dX4_mostShowing_7 rfl (lv_at hl 0 rfl) ?_
    refine k_get hC hK hP iX4 0 0 wf_X4_12 rfl (by decide) rfl rfl dX4_mostShowing_8 ?_
    refine k_getN hC hN hK hP iX7 1 2 wf_X4_165 rfl (by decide) rfl rfl dX4_mostShowing_11 ?_
    refine lv_imul hx hb dX4_mostShowing_14 ?_
    refine lv_topi (fun z5 _ => ?_)
    refine lv_iconst (v := 1) hx hb dX4_mostShowing_15 (by decide) ?_
    refine lv_isub hx hb dX4_mostShowing_16 ?_
    refine lv_topi (fun z6 _ => ?_)
    rw [← hQm]
    exact k_iret hC hr hlk hK hP hD hS () [0, 1] rfl (by decide +kernel) trivial (Nat.le_of_ble_eq_true rfl) (Nat.le_of_ble_eq_true rfl) dX4_mostShowing_17
theorem dX4_leastShowing_0 : decode cX4_leastShowing 0 = .ok (.iload_n 1, 1) := by decide +kernel
theorem dX4_leastShowing_1 : decode cX4_leastShowing 1 = .ok (.ifCond .ne 16, 3) := by decide +kernel
theorem dX4_leastShowing_17 : decode cX4_leastShowing 17 = .ok (.iload_n 1, 1) := by decide +kernel
theorem dX4_leastShowing_18 : decode cX4_leastShowing 18 = .ok (.iconst 1, 1) := by decide +kernel
theorem dX4_leastShowing_19 : decode cX4_leastShowing 19 = .ok (.if_icmp .ne 8, 3) := by decide +kernel
theorem dX4_leastShowing_27 : decode cX4_leastShowing 27 = .ok (.bipush (-100), 2) := by decide +kernel
theorem dX4_leastShowing_29 : decode cX4_leastShowing 29 = .ok (.aload_n 0, 1) := by decide +kernel
theorem dX4_leastShowing_30 : decode cX4_leastShowing 30 = .ok (.getfield 12, 3) := by decide +kernel
theorem dX4_leastShowing_33 : decode cX4_leastShowing 33 = .ok (.getfield 165, 3) := by decide +kernel
theorem dX4_leastShowing_36 : decode cX4_leastShowing 36 = .ok (.imul, 1) := by decide +kernel
theorem dX4_leastShowing_37 : decode cX4_leastShowing 37 = .ok (.ireturn, 1) := by decide +kernel
theorem dX4_leastShowing_22 : decode cX4_leastShowing 22 = .ok (.ldc 168, 2) := by decide +kernel
set_option maxRecDepth 100000 in
theorem kc_X4_168 : Cond.constant RX4 168 (-10000000) ∈ gw := gm (List.mem_of_getElem? (i := 913) (by decide +kernel)) rfl
theorem dX4_leastShowing_24 : decode cX4_leastShowing 24 = .ok (.goto 13, 3) := by decide +kernel
theorem dX4_leastShowing_4 : decode cX4_leastShowing 4 = .ok (.bipush 100, 2) := by decide +kernel
theorem dX4_leastShowing_6 : decode cX4_leastShowing 6 = .ok (.aload_n 0, 1) := by decide +kernel
theorem dX4_leastShowing_7 : decode cX4_leastShowing 7 = .ok (.getfield 12, 3) := by decide +kernel
theorem dX4_leastShowing_10 : decode cX4_leastShowing 10 = .ok (.getfield 165, 3) := by decide +kernel
theorem dX4_leastShowing_13 : decode cX4_leastShowing 13 = .ok (.imul, 1) := by decide +kernel
theorem dX4_leastShowing_14 : decode cX4_leastShowing 14 = .ok (.iconst 1, 1) := by decide +kernel
theorem dX4_leastShowing_15 : decode cX4_leastShowing 15 = .ok (.iadd, 1) := by decide +kernel
theorem dX4_leastShowing_16 : decode cX4_leastShowing 16 = .ok (.ireturn, 1) := by decide +kernel
set_option maxHeartbeats 4000000 in
set_option maxRecDepth 100000 in
theorem c87_X4_leastShowing (l : Launch) (G : va_G) (cI cJ cB cZ : ClassId) (a0 a1 a2 a3 a4 a5 a6 a7 a8 a9 a10 a11 a12 a13 a14 a15 a16 a17 a18 : Nat) (b1 : Int32) (v_se_7 : Int32) (v_se_8 : Int32) (v_se_9 : Int32) (v_se_10 : Int32) (v_V_0 : Int32) (v_V_1 : Int32) (v_V_2 : Int32) (v_V_5 : Int32) (hv_0 : 0 ≤ v_se_8.toInt) (hv_1 : v_se_9.toInt ≤ 2147483646) (hv_2 : 0 ≤ v_V_0.toInt) (hv_3 : v_V_0.toInt ≤ 110) (hv_4 : 0 ≤ v_V_1.toInt) (hv_5 : v_V_1.toInt ≤ 110) (hv_6 : 0 ≤ v_V_5.toInt) (hv_7 : v_V_5.toInt ≤ 6) : Con l G (TY cI cJ cB cZ) yX4_leastShowing cX4_leastShowing 2 (some .int) ({ frames := 0, cells := 0, slots := 0, locals := 0 } : Room) [.ref a0, .int b1] [(a0, .inr (4, [.ref a1, .ref a2, .ref a3, .ref a4, .ref a5, .ref a6, .ref a7, .int v_se_7, .int v_se_8, .int v_se_9, .int v_se_10])), (a1, .inr (7, [.int v_V_0, .int v_V_1, .int v_V_2, .ref a8, .ref a9, .int v_V_5, .ref a10, .ref a11, .ref a12, .ref a13, .ref a14, .ref a15, .ref a16, .ref a17, .ref a18]))] (QI G (TY cI cJ cB cZ) (fun (r : Int32) (u : Unit) => (True)) (fun u : Unit => [(a0, .inr (4, [.ref a1, .ref a2, .ref a3, .ref a4, .ref a5, .ref a6, .ref a7, .int v_se_7, .int v_se_8, .int v_se_9, .int v_se_10])), (a1, .inr (7, [.int v_V_0, .int v_V_1, .int v_V_2, .ref a8, .ref a9, .int v_V_5, .ref a10, .ref a11, .ref a12, .ref a13, .ref a14, .ref a15, .ref a16, .ref a17, .ref a18]))])) := by
  refine k_met (by decide) (Nat.le_of_ble_eq_true rfl) ?_
  intro p e s m below meth c A ls hC hr hlk hnm hN hZ hK hA hP hD hS hl
  have hl : lv_has ls 2 [(0, .ref a0), (1, .int b1)] := hl
  generalize hQm : MQ below _ _ s _ _ A = Qm
  generalize (List.toArray _ : Array Value) = args at hC hQm ⊢
  obtain ⟨hx, hb, hml, hown, hts⟩ := id hC
  obtain ⟨H, hH⟩ : ∃ q, q = s.heap := ⟨_, rfl⟩
  obtain ⟨locs, hlo⟩ : ∃ q : List Loc, q = [] := ⟨_, rfl⟩
  have hP : va_P G cl [(a0, .inr (4, [.ref a1, .ref a2, .ref a3, .ref a4, .ref a5, .ref a6, .ref a7, .int v_se_7, .int v_se_8, .int v_se_9, .int v_se_10])), (a1, .inr (7, [.int v_V_0, .int v_V_1, .int v_V_2, .ref a8, .ref a9, .int v_V_5, .ref a10, .ref a11, .ref a12, .ref a13, .ref a14, .ref a15, .ref a16, .ref a17, .ref a18]))] H := by rw [hH]; exact hP
  have hS : va_S A s.heap H locs := by rw [hH, hlo]; exact hS
  rw [← hlo]
  rw [← hH]
  refine lv_iload_n hx hb dX4_leastShowing_0 rfl (lv_at hl 1 rfl) ?_
  refine lv_if_ne (tgt := 17) hx hb dX4_leastShowing_1 (by decide) (fun c1 => ?_) (fun c1 => ?_)
  · have dc1 : b1.toInt ≠ 0 := fa_ne c1; have lbc1_0 := i_lo b1; have ubc1_0 := i_hi b1
    refine lv_iload_n hx hb dX4_leastShowing_17 rfl (lv_at hl 1 rfl) ?_
    refine lv_iconst (v := 1) hx hb dX4_leastShowing_18 (by decide) ?_
    refine lv_icmp_ne (tgt := 27) hx hb dX4_leastShowing_19 (by decide) (fun c2 => ?_) (fun c2 => ?_)
    · have dc2 : b1.toInt ≠ 1 := fa_ne c2; have lbc2_0 := i_lo b1; have ubc2_0 := i_hi b1
      refine lv_bipush (v := (-100)) hx hb dX4_leastShowing_27 (by decide) ?_
      refine lv_aload_n hx hb dX4_leastShowing_29 rfl (lv_at hl 0 rfl) ?_
      refine k_get hC hK hP iX4 0 0 wf_X4_12 rfl (by decide) rfl rfl dX4_leastShowing_30 ?_
      refine k_getN hC hN hK hP iX7 1 2 wf_X4_165 rfl (by decide) rfl rfl dX4_leastShowing_33 ?_
      refine lv_imul hx hb dX4_leastShowing_36 ?_
      refine lv_topi (fun z3 _ => ?_)
      rw [← hQm]
      exact k_iret hC hr hlk hK hP hD hS () [0, 1] rfl (by decide +kernel) trivial (Nat.le_of_ble_eq_true rfl) (Nat.le_of_ble_eq_true rfl) dX4_leastShowing_37
    · have dc2 : b1.toInt = 1 := (fa_eq _ _).mp c2; have lbc2_0 := i_lo b1; have ubc2_0 := i_hi b1
      refine lv_ldc (v := (-10000000)) hx hb hown (hts _ kc_X4_168) dX4_leastShowing_22 ?_
      refine lv_goto (tgt := 37) hx hb dX4_leastShowing_24 (by decide) ?_
      have l_l4 : ((-10000000) : Int32).toInt = (-10000000) := rfl
      rw [← hQm]
      exact k_iret hC hr hlk hK hP hD hS () [0, 1] rfl (by decide +kernel) trivial (Nat.le_of_ble_eq_true rfl) (Nat.le_of_ble_eq_true rfl) dX4_leastShowing_37
  · have dc1 : b1.toInt = 0 := (fa_eq _ _).mp c1; have lbc1_0 := i_lo b1; have ubc1_0 := i_hi b1
    refine lv_bipush (v := 100) hx hb dX4_leastShowing_4 (by decide) ?_
    refine lv_aload_n hx hb dX4_leastShowing_6 rfl (lv_at hl 0 rfl) ?_
    refine k_get hC hK hP iX4 0 0 wf_X4_12 rfl (by decide) rfl rfl dX4_leastShowing_7 ?_
    refine k_getN hC hN hK hP iX7 1 2 wf_X4_165 rfl (by decide) rfl rfl dX4_leastShowing_10 ?_
    refine lv_imul hx hb dX4_leastShowing_13 ?_
    refine lv_topi (fun z5 _ => ?_)
    refine lv_iconst (v := 1) hx hb dX4_leastShowing_14 (by decide) ?_
    refine lv_iadd hx hb dX4_leastShowing_15 ?_
    refine lv_topi (fun z6 _ => ?_)
    rw [← hQm]
    exact k_iret hC hr hlk hK hP hD hS () [0, 1] rfl (by decide +kernel) trivial (Nat.le_of_ble_eq_true rfl) (Nat.le_of_ble_eq_true rfl) dX4_leastShowing_16
theorem dX4_narrow_0 : decode cX4_narrow 0 = .ok (.iconst 1, 1) := by decide +kernel
theorem dX4_narrow_1 : decode cX4_narrow 1 = .ok (.iload_n 2, 1) := by decide +kernel
theorem dX4_narrow_2 : decode cX4_narrow 2 = .ok (.ishl, 1) := by decide +kernel
theorem dX4_narrow_3 : decode cX4_narrow 3 = .ok (.istore_n 3, 1) := by decide +kernel
theorem dX4_narrow_4 : decode cX4_narrow 4 = .ok (.aload_n 0, 1) := by decide +kernel
theorem dX4_narrow_5 : decode cX4_narrow 5 = .ok (.getfield 30, 3) := by decide +kernel
theorem dX4_narrow_8 : decode cX4_narrow 8 = .ok (.getfield 133, 3) := by decide +kernel
theorem dX4_narrow_11 : decode cX4_narrow 11 = .ok (.iload_n 1, 1) := by decide +kernel
theorem dX4_narrow_12 : decode cX4_narrow 12 = .ok (.iaload, 1) := by decide +kernel
theorem dX4_narrow_13 : decode cX4_narrow 13 = .ok (.iload_n 3, 1) := by decide +kernel
theorem dX4_narrow_14 : decode cX4_narrow 14 = .ok (.iand, 1) := by decide +kernel
theorem dX4_narrow_15 : decode cX4_narrow 15 = .ok (.ifCond .eq 7, 3) := by decide +kernel
theorem dX4_narrow_22 : decode cX4_narrow 22 = .ok (.iconst 0, 1) := by decide +kernel
theorem dX4_narrow_23 : decode cX4_narrow 23 = .ok (.istore 4, 2) := by decide +kernel
theorem dX4_narrow_25 : decode cX4_narrow 25 = .ok (.aload_n 0, 1) := by decide +kernel
theorem dX4_narrow_26 : decode cX4_narrow 26 = .ok (.iload_n 1, 1) := by decide +kernel
theorem dX4_narrow_27 : decode cX4_narrow 27 = .ok (.iload_n 3, 1) := by decide +kernel
theorem dX4_narrow_28 : decode cX4_narrow 28 = .ok (.invokevirtual 136, 3) := by decide +kernel
set_option maxRecDepth 100000 in
theorem wm_X4_136 : Cond.methodLink RX4 136 yX4_differenceOf ∈ gw := gm (List.mem_of_getElem? (i := 865) (by decide +kernel)) rfl
set_option maxRecDepth 100000 in
theorem mi_X4_differenceOf : MI yX4_differenceOf cX4_differenceOf 5 (some .int) 2 := ⟨gm (List.mem_of_getElem? (i := 868) rfl) rfl, gm (List.mem_of_getElem? (i := 120) (by decide +kernel)) rfl, by decide, by decide, by decide +kernel⟩
set_option maxRecDepth 100000 in
theorem in_X4_differenceOf : Cond.instanceMethod yX4_differenceOf ∈ gw := gm (List.mem_of_getElem? (i := 867) (by decide +kernel)) rfl
set_option maxRecDepth 100000 in
theorem se_X4_differenceOf : Cond.selects yX4_differenceOf.cls yX4_differenceOf yX4_differenceOf ∈ gw := gm (List.mem_of_getElem? (i := 29) (by decide +kernel)) rfl
theorem dX4_narrow_31 : decode cX4_narrow 31 = .ok (.istore 5, 2) := by decide +kernel
theorem dX4_narrow_33 : decode cX4_narrow 33 = .ok (.iload 4, 2) := by decide +kernel
theorem dX4_narrow_35 : decode cX4_narrow 35 = .ok (.ifCond .eq 22, 3) := by decide +kernel
theorem dX4_narrow_57 : decode cX4_narrow 57 = .ok (.iload 5, 2) := by decide +kernel
theorem dX4_narrow_59 : decode cX4_narrow 59 = .ok (.aload_n 0, 1) := by decide +kernel
theorem dX4_narrow_60 : decode cX4_narrow 60 = .ok (.aload_n 0, 1) := by decide +kernel
theorem dX4_narrow_61 : decode cX4_narrow 61 = .ok (.getfield 30, 3) := by decide +kernel
theorem dX4_narrow_64 : decode cX4_narrow 64 = .ok (.getfield 139, 3) := by decide +kernel
set_option maxRecDepth 100000 in
theorem wf_X4_139 : Cond.fieldLinkNest RX4 139 "StoneTrust$Weighings" "how" "[I" "StoneTrust" ∈ nests := nm_ (List.mem_of_getElem? (i := 160) (by decide +kernel)) rfl
theorem dX4_narrow_67 : decode cX4_narrow 67 = .ok (.iload_n 1, 1) := by decide +kernel
theorem dX4_narrow_68 : decode cX4_narrow 68 = .ok (.iaload, 1) := by decide +kernel
theorem dX4_narrow_69 : decode cX4_narrow 69 = .ok (.invokevirtual 145, 3) := by decide +kernel
set_option maxRecDepth 100000 in
theorem wm_X4_145 : Cond.methodLink RX4 145 yX4_mostShowing ∈ gw := gm (List.mem_of_getElem? (i := 914) (by decide +kernel)) rfl
set_option maxRecDepth 100000 in
theorem mi_X4_mostShowing : MI yX4_mostShowing cX4_mostShowing 2 (some .int) 1 := ⟨gm (List.mem_of_getElem? (i := 917) rfl) rfl, gm (List.mem_of_getElem? (i := 120) (by decide +kernel)) rfl, by decide, by decide, by decide +kernel⟩
set_option maxRecDepth 100000 in
theorem in_X4_mostShowing : Cond.instanceMethod yX4_mostShowing ∈ gw := gm (List.mem_of_getElem? (i := 916) (by decide +kernel)) rfl
set_option maxRecDepth 100000 in
theorem se_X4_mostShowing : Cond.selects yX4_mostShowing.cls yX4_mostShowing yX4_mostShowing ∈ gw := gm (List.mem_of_getElem? (i := 34) (by decide +kernel)) rfl
theorem dX4_narrow_72 : decode cX4_narrow 72 = .ok (.isub, 1) := by decide +kernel
theorem dX4_narrow_73 : decode cX4_narrow 73 = .ok (.istore 6, 2) := by decide +kernel
theorem dX4_narrow_75 : decode cX4_narrow 75 = .ok (.iload 4, 2) := by decide +kernel
theorem dX4_narrow_77 : decode cX4_narrow 77 = .ok (.ifCond .eq 22, 3) := by decide +kernel
theorem dX4_narrow_99 : decode cX4_narrow 99 = .ok (.iload 5, 2) := by decide +kernel
theorem dX4_narrow_101 : decode cX4_narrow 101 = .ok (.aload_n 0, 1) := by decide +kernel
theorem dX4_narrow_102 : decode cX4_narrow 102 = .ok (.aload_n 0, 1) := by decide +kernel
theorem dX4_narrow_103 : decode cX4_narrow 103 = .ok (.getfield 30, 3) := by decide +kernel
theorem dX4_narrow_106 : decode cX4_narrow 106 = .ok (.getfield 139, 3) := by decide +kernel
theorem dX4_narrow_109 : decode cX4_narrow 109 = .ok (.iload_n 1, 1) := by decide +kernel
theorem dX4_narrow_110 : decode cX4_narrow 110 = .ok (.iaload, 1) := by decide +kernel
theorem dX4_narrow_111 : decode cX4_narrow 111 = .ok (.invokevirtual 142, 3) := by decide +kernel
set_option maxRecDepth 100000 in
theorem wm_X4_142 : Cond.methodLink RX4 142 yX4_leastShowing ∈ gw := gm (List.mem_of_getElem? (i := 909) (by decide +kernel)) rfl
set_option maxRecDepth 100000 in
theorem mi_X4_leastShowing : MI yX4_leastShowing cX4_leastShowing 2 (some .int) 1 := ⟨gm (List.mem_of_getElem? (i := 912) rfl) rfl, gm (List.mem_of_getElem? (i := 120) (by decide +kernel)) rfl, by decide, by decide, by decide +kernel⟩
set_option maxRecDepth 100000 in
theorem in_X4_leastShowing : Cond.instanceMethod yX4_leastShowing ∈ gw := gm (List.mem_of_getElem? (i := 911) (by decide +kernel)) rfl
set_option maxRecDepth 100000 in
theorem se_X4_leastShowing : Cond.selects yX4_leastShowing.cls yX4_leastShowing yX4_leastShowing ∈ gw := gm (List.mem_of_getElem? (i := 33) (by decide +kernel)) rfl
theorem dX4_narrow_114 : decode cX4_narrow 114 = .ok (.isub, 1) := by decide +kernel
theorem dX4_narrow_115 : decode cX4_narrow 115 = .ok (.istore 7, 2) := by decide +kernel
theorem dX4_narrow_117 : decode cX4_narrow 117 = .ok (.iload 4, 2) := by decide +kernel
theorem dX4_narrow_119 : decode cX4_narrow 119 = .ok (.ifCond .eq 8, 3) := by decide +kernel
theorem dX4_narrow_127 : decode cX4_narrow 127 = .ok (.iconst 1, 1) := by decide +kernel
theorem dX4_narrow_128 : decode cX4_narrow 128 = .ok (.aload_n 0, 1) := by decide +kernel
theorem dX4_narrow_129 : decode cX4_narrow 129 = .ok (.getfield 47, 3) := by decide +kernel
theorem dX4_narrow_132 : decode cX4_narrow 132 = .ok (.invokestatic 148, 3) := by decide +kernel
theorem dX4_narrow_135 : decode cX4_narrow 135 = .ok (.istore 8, 2) := by decide +kernel
theorem dX4_narrow_137 : decode cX4_narrow 137 = .ok (.iload 6, 2) := by decide +kernel
theorem dX4_narrow_139 : decode cX4_narrow 139 = .ok (.ineg, 1) := by decide +kernel
theorem dX4_narrow_140 : decode cX4_narrow 140 = .ok (.iload 8, 2) := by decide +kernel
theorem dX4_narrow_142 : decode cX4_narrow 142 = .ok (.invokestatic 153, 3) := by decide +kernel
set_option maxRecDepth 100000 in
theorem wm_X4_153 : Cond.methodLink RX4 153 yJ9_floorDiv_7cf53 ∈ gw := gm (List.mem_of_getElem? (i := 919) (by decide +kernel)) rfl
theorem dX4_narrow_145 : decode cX4_narrow 145 = .ok (.ineg, 1) := by decide +kernel
theorem dX4_narrow_146 : decode cX4_narrow 146 = .ok (.istore 9, 2) := by decide +kernel
theorem dX4_narrow_148 : decode cX4_narrow 148 = .ok (.iload 7, 2) := by decide +kernel
theorem dX4_narrow_150 : decode cX4_narrow 150 = .ok (.iload 8, 2) := by decide +kernel
theorem dX4_narrow_152 : decode cX4_narrow 152 = .ok (.invokestatic 153, 3) := by decide +kernel
theorem dX4_narrow_155 : decode cX4_narrow 155 = .ok (.istore 10, 2) := by decide +kernel
theorem dX4_narrow_157 : decode cX4_narrow 157 = .ok (.aload_n 0, 1) := by decide +kernel
theorem dX4_narrow_158 : decode cX4_narrow 158 = .ok (.getfield 12, 3) := by decide +kernel
theorem dX4_narrow_161 : decode cX4_narrow 161 = .ok (.getfield 156, 3) := by decide +kernel
theorem dX4_narrow_164 : decode cX4_narrow 164 = .ok (.iload_n 2, 1) := by decide +kernel
theorem dX4_narrow_165 : decode cX4_narrow 165 = .ok (.iaload, 1) := by decide +kernel
theorem dX4_narrow_166 : decode cX4_narrow 166 = .ok (.aload_n 0, 1) := by decide +kernel
theorem dX4_narrow_167 : decode cX4_narrow 167 = .ok (.getfield 30, 3) := by decide +kernel
theorem dX4_narrow_170 : decode cX4_narrow 170 = .ok (.getfield 159, 3) := by decide +kernel
theorem dX4_narrow_173 : decode cX4_narrow 173 = .ok (.iload_n 1, 1) := by decide +kernel
theorem dX4_narrow_174 : decode cX4_narrow 174 = .ok (.iaload, 1) := by decide +kernel
theorem dX4_narrow_175 : decode cX4_narrow 175 = .ok (.imul, 1) := by decide +kernel
theorem dX4_narrow_176 : decode cX4_narrow 176 = .ok (.istore 11, 2) := by decide +kernel
theorem dX4_narrow_178 : decode cX4_narrow 178 = .ok (.iload 9, 2) := by decide +kernel
theorem dX4_narrow_180 : decode cX4_narrow 180 = .ok (.ifCond .le 19, 3) := by decide +kernel
theorem dX4_narrow_199 : decode cX4_narrow 199 = .ok (.aload_n 0, 1) := by decide +kernel
theorem dX4_narrow_200 : decode cX4_narrow 200 = .ok (.iload 10, 2) := by decide +kernel
theorem dX4_narrow_202 : decode cX4_narrow 202 = .ok (.ifCond .ge 12, 3) := by decide +kernel
theorem dX4_narrow_214 : decode cX4_narrow 214 = .ok (.aload_n 0, 1) := by decide +kernel
theorem dX4_narrow_215 : decode cX4_narrow 215 = .ok (.getfield 54, 3) := by decide +kernel
set_option maxRecDepth 100000 in
theorem wf_X4_54 : Cond.fieldLink RX4 54 "StoneTrust$Search" "high" "I" ∈ gw := gm (List.mem_of_getElem? (i := 420) (by decide +kernel)) rfl
theorem dX4_narrow_218 : decode cX4_narrow 218 = .ok (.iload 10, 2) := by decide +kernel
theorem dX4_narrow_220 : decode cX4_narrow 220 = .ok (.iload 11, 2) := by decide +kernel
theorem dX4_narrow_222 : decode cX4_narrow 222 = .ok (.iadd, 1) := by decide +kernel
theorem dX4_narrow_223 : decode cX4_narrow 223 = .ok (.invokestatic 162, 3) := by decide +kernel
set_option maxRecDepth 100000 in
theorem wm_X4_162 : Cond.methodLink RX4 162 Lib.Math.min.name ∈ gw := gm (List.mem_of_getElem? (i := 922) (by decide +kernel)) rfl
theorem dX4_narrow_226 : decode cX4_narrow 226 = .ok (.putfield 54, 3) := by decide +kernel
theorem dX4_narrow_229 : decode cX4_narrow 229 = .ok (.return_, 1) := by decide +kernel
theorem dX4_narrow_205 : decode cX4_narrow 205 = .ok (.aload_n 0, 1) := by decide +kernel
theorem dX4_narrow_206 : decode cX4_narrow 206 = .ok (.getfield 51, 3) := by decide +kernel
set_option maxRecDepth 100000 in
theorem wf_X4_51 : Cond.fieldLink RX4 51 "StoneTrust$Search" "low" "I" ∈ gw := gm (List.mem_of_getElem? (i := 419) (by decide +kernel)) rfl
theorem dX4_narrow_209 : decode cX4_narrow 209 = .ok (.iconst 1, 1) := by decide +kernel
theorem dX4_narrow_210 : decode cX4_narrow 210 = .ok (.isub, 1) := by decide +kernel
theorem dX4_narrow_211 : decode cX4_narrow 211 = .ok (.goto 15, 3) := by decide +kernel
theorem dX4_narrow_183 : decode cX4_narrow 183 = .ok (.aload_n 0, 1) := by decide +kernel
theorem dX4_narrow_184 : decode cX4_narrow 184 = .ok (.aload_n 0, 1) := by decide +kernel
theorem dX4_narrow_185 : decode cX4_narrow 185 = .ok (.getfield 51, 3) := by decide +kernel
theorem dX4_narrow_188 : decode cX4_narrow 188 = .ok (.iload 9, 2) := by decide +kernel
theorem dX4_narrow_190 : decode cX4_narrow 190 = .ok (.iload 11, 2) := by decide +kernel
theorem dX4_narrow_192 : decode cX4_narrow 192 = .ok (.iadd, 1) := by decide +kernel
theorem dX4_narrow_193 : decode cX4_narrow 193 = .ok (.invokestatic 148, 3) := by decide +kernel
theorem dX4_narrow_196 : decode cX4_narrow 196 = .ok (.putfield 51, 3) := by decide +kernel
theorem dX4_narrow_18 : decode cX4_narrow 18 = .ok (.iconst 1, 1) := by decide +kernel
theorem dX4_narrow_19 : decode cX4_narrow 19 = .ok (.goto 4, 3) := by decide +kernel
theorem dX4_narrow_38 : decode cX4_narrow 38 = .ok (.aload_n 0, 1) := by decide +kernel
theorem dX4_narrow_39 : decode cX4_narrow 39 = .ok (.aload_n 0, 1) := by decide +kernel
theorem dX4_narrow_40 : decode cX4_narrow 40 = .ok (.getfield 30, 3) := by decide +kernel
theorem dX4_narrow_43 : decode cX4_narrow 43 = .ok (.getfield 139, 3) := by decide +kernel
theorem dX4_narrow_46 : decode cX4_narrow 46 = .ok (.iload_n 1, 1) := by decide +kernel
theorem dX4_narrow_47 : decode cX4_narrow 47 = .ok (.iaload, 1) := by decide +kernel
theorem dX4_narrow_48 : decode cX4_narrow 48 = .ok (.invokevirtual 142, 3) := by decide +kernel
theorem dX4_narrow_51 : decode cX4_narrow 51 = .ok (.iload 5, 2) := by decide +kernel
theorem dX4_narrow_53 : decode cX4_narrow 53 = .ok (.isub, 1) := by decide +kernel
theorem dX4_narrow_54 : decode cX4_narrow 54 = .ok (.goto 19, 3) := by decide +kernel
theorem dX4_narrow_80 : decode cX4_narrow 80 = .ok (.aload_n 0, 1) := by decide +kernel
theorem dX4_narrow_81 : decode cX4_narrow 81 = .ok (.aload_n 0, 1) := by decide +kernel
theorem dX4_narrow_82 : decode cX4_narrow 82 = .ok (.getfield 30, 3) := by decide +kernel
theorem dX4_narrow_85 : decode cX4_narrow 85 = .ok (.getfield 139, 3) := by decide +kernel
theorem dX4_narrow_88 : decode cX4_narrow 88 = .ok (.iload_n 1, 1) := by decide +kernel
theorem dX4_narrow_89 : decode cX4_narrow 89 = .ok (.iaload, 1) := by decide +kernel
theorem dX4_narrow_90 : decode cX4_narrow 90 = .ok (.invokevirtual 145, 3) := by decide +kernel
theorem dX4_narrow_93 : decode cX4_narrow 93 = .ok (.iload 5, 2) := by decide +kernel
theorem dX4_narrow_95 : decode cX4_narrow 95 = .ok (.isub, 1) := by decide +kernel
theorem dX4_narrow_96 : decode cX4_narrow 96 = .ok (.goto 19, 3) := by decide +kernel
theorem dX4_narrow_122 : decode cX4_narrow 122 = .ok (.bipush 100, 2) := by decide +kernel
theorem dX4_narrow_124 : decode cX4_narrow 124 = .ok (.goto 11, 3) := by decide +kernel
set_option maxHeartbeats 4000000 in
set_option maxRecDepth 100000 in
theorem c88_X4_narrow (l : Launch) (G : va_G) (cI cJ cB cZ : ClassId) (a0 a1 a2 a3 a4 a5 a6 a7 a8 a9 a10 a11 a12 a13 a14 a15 a16 a17 a18 a19 a20 a21 a22 a23 a24 a25 : Nat) (b1 : Int32) (b2 : Int32) (v_se_7 : Int32) (v_se_8 : Int32) (v_se_9 : Int32) (v_se_10 : Int32) (v_cn_7 : Int32) (v_V_0 : Int32) (v_V_1 : Int32) (v_V_2 : Int32) (v_V_5 : Int32) (g_cn_left : Nat → Int32) (g_cn_right : Nat → Int32) (g_cn_year : Nat → Int32) (g_se_weight : Nat → Int32) (g_V_worn : Nat → Int32) (g_cn_how : Nat → Int32) (hv_0 : 0 ≤ b1.toInt) (hv_1 : b1.toInt ≤ 45) (hv_2 : 0 ≤ b2.toInt) (hv_3 : b2.toInt ≤ 5) (hv_4 : 0 ≤ v_se_8.toInt) (hv_5 : v_se_9.toInt ≤ 2147483646) (hv_6 : 0 ≤ v_cn_7.toInt) (hv_7 : v_cn_7.toInt ≤ 46) (hv_8 : 0 ≤ v_V_0.toInt) (hv_9 : v_V_0.toInt ≤ 110) (hv_10 : 0 ≤ v_V_1.toInt) (hv_11 : v_V_1.toInt ≤ 110) (hv_12 : 0 ≤ v_V_5.toInt) (hv_13 : v_V_5.toInt ≤ 6) : Con l G (TY cI cJ cB cZ) yX4_narrow cX4_narrow 12 none ({ frames := 3, cells := 0, slots := 0, locals := 69 } : Room) [.ref a0, .int b1, .int b2] [(a0, .inr (4, [.ref a1, .ref a2, .ref a3, .ref a4, .ref a5, .ref a6, .ref a7, .int v_se_7, .int v_se_8, .int v_se_9, .int v_se_10])), (a3, .inr (8, [.ref a8, .ref a9, .ref a10, .ref a11, .ref a12, .ref a13, .ref a14, .int v_cn_7])), (a8, .inl (cI, 46, .inl g_cn_left)), (a9, .inl (cI, 46, .inl g_cn_right)), (a10, .inl (cI, 46, .inl g_cn_year)), (a1, .inr (7, [.int v_V_0, .int v_V_1, .int v_V_2, .ref a15, .ref a16, .int v_V_5, .ref a17, .ref a18, .ref a19, .ref a20, .ref a21, .ref a22, .ref a23, .ref a24, .ref a25])), (a5, .inl (cI, 6, .inl g_se_weight)), (a21, .inl (cI, 6, .inl g_V_worn)), (a12, .inl (cI, 46, .inl g_cn_how))] (QV G (TY cI cJ cB cZ) (fun u : Int32 × Int32 => (0 ≤ u.1.toInt ∧ u.2.toInt ≤ 2147483646)) (fun u : Int32 × Int32 => [(a0, .inr (4, [.ref a1, .ref a2, .ref a3, .ref a4, .ref a5, .ref a6, .ref a7, .int v_se_7, .int u.1, .int u.2, .int v_se_10])), (a3, .inr (8, [.ref a8, .ref a9, .ref a10, .ref a11, .ref a12, .ref a13, .ref a14, .int v_cn_7])), (a8, .inl (cI, 46, .inl g_cn_left)), (a9, .inl (cI, 46, .inl g_cn_right)), (a10, .inl (cI, 46, .inl g_cn_year)), (a1, .inr (7, [.int v_V_0, .int v_V_1, .int v_V_2, .ref a15, .ref a16, .int v_V_5, .ref a17, .ref a18, .ref a19, .ref a20, .ref a21, .ref a22, .ref a23, .ref a24, .ref a25])), (a5, .inl (cI, 6, .inl g_se_weight)), (a21, .inl (cI, 6, .inl g_V_worn)), (a12, .inl (cI, 46, .inl g_cn_how))])) := by
  refine k_met (by decide) (Nat.le_of_ble_eq_true rfl) ?_
  intro p e s m below meth c A ls hC hr hlk hnm hN hZ hK hA hP hD hS hl
  have hl : lv_has ls 12 [(0, .ref a0), (1, .int b1), (2, .int b2)] := hl
  generalize hQm : MQ below _ _ s _ _ A = Qm
  generalize (List.toArray _ : Array Value) = args at hC hQm ⊢
  obtain ⟨hx, hb, hml, hown, hts⟩ := id hC
  obtain ⟨H, hH⟩ : ∃ q, q = s.heap := ⟨_, rfl⟩
  obtain ⟨locs, hlo⟩ : ∃ q : List Loc, q = [] := ⟨_, rfl⟩
  have hP : va_P G cl [(a0, .inr (4, [.ref a1, .ref a2, .ref a3, .ref a4, .ref a5, .ref a6, .ref a7, .int v_se_7, .int v_se_8, .int v_se_9, .int v_se_10])), (a3, .inr (8, [.ref a8, .ref a9, .ref a10, .ref a11, .ref a12, .ref a13, .ref a14, .int v_cn_7])), (a8, .inl (cI, 46, .inl g_cn_left)), (a9, .inl (cI, 46, .inl g_cn_right)), (a10, .inl (cI, 46, .inl g_cn_year)), (a1, .inr (7, [.int v_V_0, .int v_V_1, .int v_V_2, .ref a15, .ref a16, .int v_V_5, .ref a17, .ref a18, .ref a19, .ref a20, .ref a21, .ref a22, .ref a23, .ref a24, .ref a25])), (a5, .inl (cI, 6, .inl g_se_weight)), (a21, .inl (cI, 6, .inl g_V_worn)), (a12, .inl (cI, 46, .inl g_cn_how))] H := by rw [hH]; exact hP
  have hS : va_S A s.heap H locs := by rw [hH, hlo]; exact hS
  rw [← hlo]
  rw [← hH]
  refine lv_iconst (v := 1) hx hb dX4_narrow_0 (by decide) ?_
  refine lv_iload_n hx hb dX4_narrow_1 rfl (lv_at hl 2 rfl) ?_
  refine lv_ishl hx hb dX4_narrow_2 ?_
  refine t_i (fun q => 1 ≤ q.toInt ∧ q.toInt ≤ 32) (shl1_b (k := 5) (by decide) (by omega) (by omega)) (fun z1 tz1 => ?_)
  refine lv_istore_n (lv' := [(3, .int z1), (0, .ref a0), (1, .int b1), (2, .int b2)]) hx hb dX4_narrow_3 rfl hl (by decide) rfl (fun ls hl => ?_)
  refine lv_aload_n hx hb dX4_narrow_4 rfl (lv_at hl 1 rfl) ?_
  refine k_get hC hK hP iX4 0 2 wf_X4_30 rfl (by decide) rfl rfl dX4_narrow_5 ?_
  refine k_getN hC hN hK hP iX8 1 0 wf_X4_133 rfl (by decide) rfl rfl dX4_narrow_8 ?_
  refine lv_iload_n hx hb dX4_narrow_11 rfl (lv_at hl 2 rfl) ?_
  refine t_iald hC hK hP 2 rfl (by omega) (by omega) (TA.all _) dX4_narrow_12 (fun z2 tz2 => ?_)
  refine lv_iload_n hx hb dX4_narrow_13 rfl (lv_at hl 0 rfl) ?_
  refine lv_iand hx hb dX4_narrow_14 ?_
  refine t_i (fun q => 0 ≤ q.toInt ∧ q.toInt ≤ z1.toInt) (by have h_ := and_b (x := z2) (y := z1) (by omega); exact h_) (fun z3 tz3 => ?_)
  refine lv_if_eq (tgt := 22) hx hb dX4_narrow_15 (by decide) (fun c4 => ?_) (fun c4 => ?_)
  · have dc4 : z3.toInt = 0 := (fa_eq _ _).mp c4
    refine lv_iconst (v := 0) hx hb dX4_narrow_22 (by decide) ?_
    refine lv_istore (lv' := [(4, .int 0), (3, .int z1), (0, .ref a0), (1, .int b1), (2, .int b2)]) hx hb dX4_narrow_23 hl (by decide) rfl (fun ls hl => ?_)
    refine lv_aload_n hx hb dX4_narrow_25 rfl (lv_at hl 2 rfl) ?_
    refine lv_iload_n hx hb dX4_narrow_26 rfl (lv_at hl 3 rfl) ?_
    refine lv_iload_n hx hb dX4_narrow_27 rfl (lv_at hl 1 rfl) ?_
    refine k_ci (wr := [(a12, .inl (cI, 46, .inl g_cn_how))]) (k_rV hC hN hZ hS hA hK hP hD (c85_X4_differenceOf l G cI cJ cB cZ a0 a1 a2 a3 a4 a5 a6 a7 a8 a9 a10 a11 a12 a13 a14 a15 a16 a17 a18 a19 a20 a21 a22 a23 a24 a25 b1 z1 v_se_7 v_se_8 v_se_9 v_se_10 v_cn_7 v_V_0 v_V_1 v_V_2 v_V_5 g_cn_left g_cn_right g_cn_year g_se_weight g_V_worn hv_0 hv_1 hv_4 hv_5 hv_6 hv_7 hv_8 hv_9 hv_10 hv_11 hv_12 hv_13) [0, 1, 2, 3, 4, 5, 6, 7] rfl (by decide +kernel) mi_X4_differenceOf in_X4_differenceOf se_X4_differenceOf wm_X4_136 4 0 rfl rfl rfl hl.1 rfl rfl (Nat.le_of_ble_eq_true rfl) ⟨(Nat.le_of_ble_eq_true rfl), (Nat.le_of_ble_eq_true rfl)⟩ dX4_narrow_28 ⟨(Nat.le_of_ble_eq_true rfl), (Nat.le_of_ble_eq_true rfl)⟩) hP hD hS hA [0, 1, 2, 3, 4, 5, 6, 7] [8] rfl rfl (by decide +kernel) (by decide +kernel) (fun r5 u5 H locs hp hP hD hS => ?_)
    have hp : (True) := hp
    have hP : va_P G cl [(a12, .inl (cI, 46, .inl g_cn_how)), (a0, .inr (4, [.ref a1, .ref a2, .ref a3, .ref a4, .ref a5, .ref a6, .ref a7, .int v_se_7, .int v_se_8, .int v_se_9, .int v_se_10])), (a3, .inr (8, [.ref a8, .ref a9, .ref a10, .ref a11, .ref a12, .ref a13, .ref a14, .int v_cn_7])), (a8, .inl (cI, 46, .inl g_cn_left)), (a9, .inl (cI, 46, .inl g_cn_right)), (a10, .inl (cI, 46, .inl g_cn_year)), (a1, .inr (7, [.int v_V_0, .int v_V_1, .int v_V_2, .ref a15, .ref a16, .int v_V_5, .ref a17, .ref a18, .ref a19, .ref a20, .ref a21, .ref a22, .ref a23, .ref a24, .ref a25])), (a5, .inl (cI, 6, .inl g_se_weight)), (a21, .inl (cI, 6, .inl g_V_worn))] H := hP
    have hD : va_D A [(a12, .inl (cI, 46, .inl g_cn_how)), (a0, .inr (4, [.ref a1, .ref a2, .ref a3, .ref a4, .ref a5, .ref a6, .ref a7, .int v_se_7, .int v_se_8, .int v_se_9, .int v_se_10])), (a3, .inr (8, [.ref a8, .ref a9, .ref a10, .ref a11, .ref a12, .ref a13, .ref a14, .int v_cn_7])), (a8, .inl (cI, 46, .inl g_cn_left)), (a9, .inl (cI, 46, .inl g_cn_right)), (a10, .inl (cI, 46, .inl g_cn_year)), (a1, .inr (7, [.int v_V_0, .int v_V_1, .int v_V_2, .ref a15, .ref a16, .int v_V_5, .ref a17, .ref a18, .ref a19, .ref a20, .ref a21, .ref a22, .ref a23, .ref a24, .ref a25])), (a5, .inl (cI, 6, .inl g_se_weight)), (a21, .inl (cI, 6, .inl g_V_worn))] := hD
    have hq5 := hp
    refine lv_istore (lv' := [(5, .int r5), (4, .int 0), (3, .int z1), (0, .ref a0), (1, .int b1), (2, .int b2)]) hx hb dX4_narrow_31 hl (by decide) rfl (fun ls hl => ?_)
    refine lv_iload hx hb dX4_narrow_33 (lv_at hl 1 rfl) ?_
    refine lv_if_eq (tgt := 57) hx hb dX4_narrow_35 (by decide) (fun _ => ?_) (fun c_ => absurd (by decide +kernel) c_)
    refine lv_iload hx hb dX4_narrow_57 (lv_at hl 0 rfl) ?_
    refine lv_aload_n hx hb dX4_narrow_59 rfl (lv_at hl 3 rfl) ?_
    refine lv_aload_n hx hb dX4_narrow_60 rfl (lv_at hl 3 rfl) ?_
    refine k_get hC hK hP iX4 1 2 wf_X4_30 rfl (by decide) rfl rfl dX4_narrow_61 ?_
    refine k_getN hC hN hK hP iX8 2 4 wf_X4_139 rfl (by decide) rfl rfl dX4_narrow_64 ?_
    refine lv_iload_n hx hb dX4_narrow_67 rfl (lv_at hl 4 rfl) ?_
    refine t_iald hC hK hP 0 rfl (by omega) (by omega) (TA.all _) dX4_narrow_68 (fun z6 tz6 => ?_)
    refine k_ci (wr := [(a12, .inl (cI, 46, .inl g_cn_how)), (a3, .inr (8, [.ref a8, .ref a9, .ref a10, .ref a11, .ref a12, .ref a13, .ref a14, .int v_cn_7])), (a8, .inl (cI, 46, .inl g_cn_left)), (a9, .inl (cI, 46, .inl g_cn_right)), (a10, .inl (cI, 46, .inl g_cn_year)), (a5, .inl (cI, 6, .inl g_se_weight)), (a21, .inl (cI, 6, .inl g_V_worn))]) (k_rV hC hN hZ hS hA hK hP hD (c86_X4_mostShowing l G cI cJ cB cZ a0 a1 a2 a3 a4 a5 a6 a7 a15 a16 a17 a18 a19 a20 a21 a22 a23 a24 a25 z6 v_se_7 v_se_8 v_se_9 v_se_10 v_V_0 v_V_1 v_V_2 v_V_5 hv_4 hv_5 hv_8 hv_9 hv_10 hv_11 hv_12 hv_13) [1, 6] rfl (by decide +kernel) mi_X4_mostShowing in_X4_mostShowing se_X4_mostShowing wm_X4_145 4 1 rfl rfl rfl hl.1 rfl rfl (Nat.le_of_ble_eq_true rfl) ⟨(Nat.le_of_ble_eq_true rfl), (Nat.le_of_ble_eq_true rfl)⟩ dX4_narrow_69 ⟨(Nat.le_of_ble_eq_true rfl), (Nat.le_of_ble_eq_true rfl)⟩) hP hD hS hA [1, 6] [0, 2, 3, 4, 5, 7, 8] rfl rfl (by decide +kernel) (by decide +kernel) (fun r7 u7 H locs hp hP hD hS => ?_)
    have hp : (True) := hp
    have hP : va_P G cl [(a12, .inl (cI, 46, .inl g_cn_how)), (a3, .inr (8, [.ref a8, .ref a9, .ref a10, .ref a11, .ref a12, .ref a13, .ref a14, .int v_cn_7])), (a8, .inl (cI, 46, .inl g_cn_left)), (a9, .inl (cI, 46, .inl g_cn_right)), (a10, .inl (cI, 46, .inl g_cn_year)), (a5, .inl (cI, 6, .inl g_se_weight)), (a21, .inl (cI, 6, .inl g_V_worn)), (a0, .inr (4, [.ref a1, .ref a2, .ref a3, .ref a4, .ref a5, .ref a6, .ref a7, .int v_se_7, .int v_se_8, .int v_se_9, .int v_se_10])), (a1, .inr (7, [.int v_V_0, .int v_V_1, .int v_V_2, .ref a15, .ref a16, .int v_V_5, .ref a17, .ref a18, .ref a19, .ref a20, .ref a21, .ref a22, .ref a23, .ref a24, .ref a25]))] H := hP
    have hD : va_D A [(a12, .inl (cI, 46, .inl g_cn_how)), (a3, .inr (8, [.ref a8, .ref a9, .ref a10, .ref a11, .ref a12, .ref a13, .ref a14, .int v_cn_7])), (a8, .inl (cI, 46, .inl g_cn_left)), (a9, .inl (cI, 46, .inl g_cn_right)), (a10, .inl (cI, 46, .inl g_cn_year)), (a5, .inl (cI, 6, .inl g_se_weight)), (a21, .inl (cI, 6, .inl g_V_worn)), (a0, .inr (4, [.ref a1, .ref a2, .ref a3, .ref a4, .ref a5, .ref a6, .ref a7, .int v_se_7, .int v_se_8, .int v_se_9, .int v_se_10])), (a1, .inr (7, [.int v_V_0, .int v_V_1, .int v_V_2, .ref a15, .ref a16, .int v_V_5, .ref a17, .ref a18, .ref a19, .ref a20, .ref a21, .ref a22, .ref a23, .ref a24, .ref a25]))] := hD
    have hq7 := hp
    refine lv_isub hx hb dX4_narrow_72 ?_
    refine lv_topi (fun z8 _ => ?_)
    refine lv_istore (lv' := [(6, .int z8), (5, .int r5), (4, .int 0), (3, .int z1), (0, .ref a0), (1, .int b1), (2, .int b2)]) hx hb dX4_narrow_73 hl (by decide) rfl (fun ls hl => ?_)
    refine lv_iload hx hb dX4_narrow_75 (lv_at hl 2 rfl) ?_
    refine lv_if_eq (tgt := 99) hx hb dX4_narrow_77 (by decide) (fun _ => ?_) (fun c_ => absurd (by decide +kernel) c_)
    refine lv_iload hx hb dX4_narrow_99 (lv_at hl 1 rfl) ?_
    refine lv_aload_n hx hb dX4_narrow_101 rfl (lv_at hl 4 rfl) ?_
    refine lv_aload_n hx hb dX4_narrow_102 rfl (lv_at hl 4 rfl) ?_
    refine k_get hC hK hP iX4 7 2 wf_X4_30 rfl (by decide) rfl rfl dX4_narrow_103 ?_
    refine k_getN hC hN hK hP iX8 1 4 wf_X4_139 rfl (by decide) rfl rfl dX4_narrow_106 ?_
    refine lv_iload_n hx hb dX4_narrow_109 rfl (lv_at hl 5 rfl) ?_
    refine t_iald hC hK hP 0 rfl (by omega) (by omega) (TA.all _) dX4_narrow_110 (fun z9 tz9 => ?_)
    refine k_ci (wr := [(a12, .inl (cI, 46, .inl g_cn_how)), (a3, .inr (8, [.ref a8, .ref a9, .ref a10, .ref a11, .ref a12, .ref a13, .ref a14, .int v_cn_7])), (a8, .inl (cI, 46, .inl g_cn_left)), (a9, .inl (cI, 46, .inl g_cn_right)), (a10, .inl (cI, 46, .inl g_cn_year)), (a5, .inl (cI, 6, .inl g_se_weight)), (a21, .inl (cI, 6, .inl g_V_worn))]) (k_rV hC hN hZ hS hA hK hP hD (c87_X4_leastShowing l G cI cJ cB cZ a0 a1 a2 a3 a4 a5 a6 a7 a15 a16 a17 a18 a19 a20 a21 a22 a23 a24 a25 z9 v_se_7 v_se_8 v_se_9 v_se_10 v_V_0 v_V_1 v_V_2 v_V_5 hv_4 hv_5 hv_8 hv_9 hv_10 hv_11 hv_12 hv_13) [7, 8] rfl (by decide +kernel) mi_X4_leastShowing in_X4_leastShowing se_X4_leastShowing wm_X4_142 4 7 rfl rfl rfl hl.1 rfl rfl (Nat.le_of_ble_eq_true rfl) ⟨(Nat.le_of_ble_eq_true rfl), (Nat.le_of_ble_eq_true rfl)⟩ dX4_narrow_111 ⟨(Nat.le_of_ble_eq_true rfl), (Nat.le_of_ble_eq_true rfl)⟩) hP hD hS hA [7, 8] [0, 1, 2, 3, 4, 5, 6] rfl rfl (by decide +kernel) (by decide +kernel) (fun r10 u10 H locs hp hP hD hS => ?_)
    have hp : (True) := hp
    have hP : va_P G cl [(a12, .inl (cI, 46, .inl g_cn_how)), (a3, .inr (8, [.ref a8, .ref a9, .ref a10, .ref a11, .ref a12, .ref a13, .ref a14, .int v_cn_7])), (a8, .inl (cI, 46, .inl g_cn_left)), (a9, .inl (cI, 46, .inl g_cn_right)), (a10, .inl (cI, 46, .inl g_cn_year)), (a5, .inl (cI, 6, .inl g_se_weight)), (a21, .inl (cI, 6, .inl g_V_worn)), (a0, .inr (4, [.ref a1, .ref a2, .ref a3, .ref a4, .ref a5, .ref a6, .ref a7, .int v_se_7, .int v_se_8, .int v_se_9, .int v_se_10])), (a1, .inr (7, [.int v_V_0, .int v_V_1, .int v_V_2, .ref a15, .ref a16, .int v_V_5, .ref a17, .ref a18, .ref a19, .ref a20, .ref a21, .ref a22, .ref a23, .ref a24, .ref a25]))] H := hP
    have hD : va_D A [(a12, .inl (cI, 46, .inl g_cn_how)), (a3, .inr (8, [.ref a8, .ref a9, .ref a10, .ref a11, .ref a12, .ref a13, .ref a14, .int v_cn_7])), (a8, .inl (cI, 46, .inl g_cn_left)), (a9, .inl (cI, 46, .inl g_cn_right)), (a10, .inl (cI, 46, .inl g_cn_year)), (a5, .inl (cI, 6, .inl g_se_weight)), (a21, .inl (cI, 6, .inl g_V_worn)), (a0, .inr (4, [.ref a1, .ref a2, .ref a3, .ref a4, .ref a5, .ref a6, .ref a7, .int v_se_7, .int v_se_8, .int v_se_9, .int v_se_10])), (a1, .inr (7, [.int v_V_0, .int v_V_1, .int v_V_2, .ref a15, .ref a16, .int v_V_5, .ref a17, .ref a18, .ref a19, .ref a20, .ref a21, .ref a22, .ref a23, .ref a24, .ref a25]))] := hD
    have hq10 := hp
    refine lv_isub hx hb dX4_narrow_114 ?_
    refine lv_topi (fun z11 _ => ?_)
    refine lv_istore (lv' := [(7, .int z11), (6, .int z8), (5, .int r5), (4, .int 0), (3, .int z1), (0, .ref a0), (1, .int b1), (2, .int b2)]) hx hb dX4_narrow_115 hl (by decide) rfl (fun ls hl => ?_)
    refine lv_iload hx hb dX4_narrow_117 (lv_at hl 3 rfl) ?_
    refine lv_if_eq (tgt := 127) hx hb dX4_narrow_119 (by decide) (fun _ => ?_) (fun c_ => absurd (by decide +kernel) c_)
    refine lv_iconst (v := 1) hx hb dX4_narrow_127 (by decide) ?_
    refine lv_aload_n hx hb dX4_narrow_128 rfl (lv_at hl 5 rfl) ?_
    refine k_get hC hK hP iX4 7 7 wf_X4_47 rfl (by decide) rfl rfl dX4_narrow_129 ?_
    refine va_mmax hx hb (hml.trans hl.1.symm) hown (hts _ wm_X4_148) (hts _ st_Mmax) (hts _ ini_Math) (hts _ co_Mmax) (Nat.le_of_ble_eq_true rfl) (Nat.le_of_ble_eq_true rfl) (Nat.le_of_ble_eq_true rfl) (Nat.le_of_ble_eq_true rfl) dX4_narrow_132 ?_
    refine t_i (fun q => 1 ≤ q.toInt ∧ v_se_7.toInt ≤ q.toInt ∧ (q.toInt = 1 ∨ q.toInt = v_se_7.toInt)) (max_b 1 v_se_7) (fun z12 tz12 => ?_)
    refine lv_istore (lv' := [(8, .int z12), (7, .int z11), (6, .int z8), (5, .int r5), (4, .int 0), (3, .int z1), (0, .ref a0), (1, .int b1), (2, .int b2)]) hx hb dX4_narrow_135 hl (by decide) rfl (fun ls hl => ?_)
    refine lv_iload hx hb dX4_narrow_137 (lv_at hl 2 rfl) ?_
    refine lv_ineg hx hb dX4_narrow_139 ?_
    refine lv_topi (fun z13 _ => ?_)
    refine lv_iload hx hb dX4_narrow_140 (lv_at hl 0 rfl) ?_
    refine k_ci (wr := [(a12, .inl (cI, 46, .inl g_cn_how)), (a3, .inr (8, [.ref a8, .ref a9, .ref a10, .ref a11, .ref a12, .ref a13, .ref a14, .int v_cn_7])), (a8, .inl (cI, 46, .inl g_cn_left)), (a9, .inl (cI, 46, .inl g_cn_right)), (a10, .inl (cI, 46, .inl g_cn_year)), (a5, .inl (cI, 6, .inl g_se_weight)), (a21, .inl (cI, 6, .inl g_V_worn)), (a0, .inr (4, [.ref a1, .ref a2, .ref a3, .ref a4, .ref a5, .ref a6, .ref a7, .int v_se_7, .int v_se_8, .int v_se_9, .int v_se_10])), (a1, .inr (7, [.int v_V_0, .int v_V_1, .int v_V_2, .ref a15, .ref a16, .int v_V_5, .ref a17, .ref a18, .ref a19, .ref a20, .ref a21, .ref a22, .ref a23, .ref a24, .ref a25]))]) (k_rS hC hN hZ hS hA hK hP hD (c43_J9_floorDiv_7cf53 l G cI cJ cB cZ z13 z12 (by omega)) [] rfl (by decide +kernel) mi_J9_floorDiv_7cf53 st_J9_floorDiv_7cf53 wm_X4_153 hl.1 rfl rfl (Nat.le_of_ble_eq_true rfl) ⟨(Nat.le_of_ble_eq_true rfl), (Nat.le_of_ble_eq_true rfl)⟩ dX4_narrow_142 ⟨(Nat.le_of_ble_eq_true rfl), (Nat.le_of_ble_eq_true rfl)⟩) hP hD hS hA [] [0, 1, 2, 3, 4, 5, 6, 7, 8] rfl rfl (by decide +kernel) (by decide +kernel) (fun r14 u14 H locs hp hP hD hS => ?_)
    have hp : (True) := hp
    have hP : va_P G cl [(a12, .inl (cI, 46, .inl g_cn_how)), (a3, .inr (8, [.ref a8, .ref a9, .ref a10, .ref a11, .ref a12, .ref a13, .ref a14, .int v_cn_7])), (a8, .inl (cI, 46, .inl g_cn_left)), (a9, .inl (cI, 46, .inl g_cn_right)), (a10, .inl (cI, 46, .inl g_cn_year)), (a5, .inl (cI, 6, .inl g_se_weight)), (a21, .inl (cI, 6, .inl g_V_worn)), (a0, .inr (4, [.ref a1, .ref a2, .ref a3, .ref a4, .ref a5, .ref a6, .ref a7, .int v_se_7, .int v_se_8, .int v_se_9, .int v_se_10])), (a1, .inr (7, [.int v_V_0, .int v_V_1, .int v_V_2, .ref a15, .ref a16, .int v_V_5, .ref a17, .ref a18, .ref a19, .ref a20, .ref a21, .ref a22, .ref a23, .ref a24, .ref a25]))] H := hP
    have hD : va_D A [(a12, .inl (cI, 46, .inl g_cn_how)), (a3, .inr (8, [.ref a8, .ref a9, .ref a10, .ref a11, .ref a12, .ref a13, .ref a14, .int v_cn_7])), (a8, .inl (cI, 46, .inl g_cn_left)), (a9, .inl (cI, 46, .inl g_cn_right)), (a10, .inl (cI, 46, .inl g_cn_year)), (a5, .inl (cI, 6, .inl g_se_weight)), (a21, .inl (cI, 6, .inl g_V_worn)), (a0, .inr (4, [.ref a1, .ref a2, .ref a3, .ref a4, .ref a5, .ref a6, .ref a7, .int v_se_7, .int v_se_8, .int v_se_9, .int v_se_10])), (a1, .inr (7, [.int v_V_0, .int v_V_1, .int v_V_2, .ref a15, .ref a16, .int v_V_5, .ref a17, .ref a18, .ref a19, .ref a20, .ref a21, .ref a22, .ref a23, .ref a24, .ref a25]))] := hD
    have hq14 := hp
    refine lv_ineg hx hb dX4_narrow_145 ?_
    refine lv_topi (fun z15 _ => ?_)
    refine lv_istore (lv' := [(9, .int z15), (8, .int z12), (7, .int z11), (6, .int z8), (5, .int r5), (4, .int 0), (3, .int z1), (0, .ref a0), (1, .int b1), (2, .int b2)]) hx hb dX4_narrow_146 hl (by decide) rfl (fun ls hl => ?_)
    refine lv_iload hx hb dX4_narrow_148 (lv_at hl 2 rfl) ?_
    refine lv_iload hx hb dX4_narrow_150 (lv_at hl 1 rfl) ?_
    refine k_ci (wr := [(a12, .inl (cI, 46, .inl g_cn_how)), (a3, .inr (8, [.ref a8, .ref a9, .ref a10, .ref a11, .ref a12, .ref a13, .ref a14, .int v_cn_7])), (a8, .inl (cI, 46, .inl g_cn_left)), (a9, .inl (cI, 46, .inl g_cn_right)), (a10, .inl (cI, 46, .inl g_cn_year)), (a5, .inl (cI, 6, .inl g_se_weight)), (a21, .inl (cI, 6, .inl g_V_worn)), (a0, .inr (4, [.ref a1, .ref a2, .ref a3, .ref a4, .ref a5, .ref a6, .ref a7, .int v_se_7, .int v_se_8, .int v_se_9, .int v_se_10])), (a1, .inr (7, [.int v_V_0, .int v_V_1, .int v_V_2, .ref a15, .ref a16, .int v_V_5, .ref a17, .ref a18, .ref a19, .ref a20, .ref a21, .ref a22, .ref a23, .ref a24, .ref a25]))]) (k_rS hC hN hZ hS hA hK hP hD (c43_J9_floorDiv_7cf53 l G cI cJ cB cZ z11 z12 (by omega)) [] rfl (by decide +kernel) mi_J9_floorDiv_7cf53 st_J9_floorDiv_7cf53 wm_X4_153 hl.1 rfl rfl (Nat.le_of_ble_eq_true rfl) ⟨(Nat.le_of_ble_eq_true rfl), (Nat.le_of_ble_eq_true rfl)⟩ dX4_narrow_152 ⟨(Nat.le_of_ble_eq_true rfl), (Nat.le_of_ble_eq_true rfl)⟩) hP hD hS hA [] [0, 1, 2, 3, 4, 5, 6, 7, 8] rfl rfl (by decide +kernel) (by decide +kernel) (fun r16 u16 H locs hp hP hD hS => ?_)
    have hp : (True) := hp
    have hP : va_P G cl [(a12, .inl (cI, 46, .inl g_cn_how)), (a3, .inr (8, [.ref a8, .ref a9, .ref a10, .ref a11, .ref a12, .ref a13, .ref a14, .int v_cn_7])), (a8, .inl (cI, 46, .inl g_cn_left)), (a9, .inl (cI, 46, .inl g_cn_right)), (a10, .inl (cI, 46, .inl g_cn_year)), (a5, .inl (cI, 6, .inl g_se_weight)), (a21, .inl (cI, 6, .inl g_V_worn)), (a0, .inr (4, [.ref a1, .ref a2, .ref a3, .ref a4, .ref a5, .ref a6, .ref a7, .int v_se_7, .int v_se_8, .int v_se_9, .int v_se_10])), (a1, .inr (7, [.int v_V_0, .int v_V_1, .int v_V_2, .ref a15, .ref a16, .int v_V_5, .ref a17, .ref a18, .ref a19, .ref a20, .ref a21, .ref a22, .ref a23, .ref a24, .ref a25]))] H := hP
    have hD : va_D A [(a12, .inl (cI, 46, .inl g_cn_how)), (a3, .inr (8, [.ref a8, .ref a9, .ref a10, .ref a11, .ref a12, .ref a13, .ref a14, .int v_cn_7])), (a8, .inl (cI, 46, .inl g_cn_left)), (a9, .inl (cI, 46, .inl g_cn_right)), (a10, .inl (cI, 46, .inl g_cn_year)), (a5, .inl (cI, 6, .inl g_se_weight)), (a21, .inl (cI, 6, .inl g_V_worn)), (a0, .inr (4, [.ref a1, .ref a2, .ref a3, .ref a4, .ref a5, .ref a6, .ref a7, .int v_se_7, .int v_se_8, .int v_se_9, .int v_se_10])), (a1, .inr (7, [.int v_V_0, .int v_V_1, .int v_V_2, .ref a15, .ref a16, .int v_V_5, .ref a17, .ref a18, .ref a19, .ref a20, .ref a21, .ref a22, .ref a23, .ref a24, .ref a25]))] := hD
    have hq16 := hp
    refine lv_istore (lv' := [(10, .int r16), (9, .int z15), (8, .int z12), (7, .int z11), (6, .int z8), (5, .int r5), (4, .int 0), (3, .int z1), (0, .ref a0), (1, .int b1), (2, .int b2)]) hx hb dX4_narrow_155 hl (by decide) rfl (fun ls hl => ?_)
    refine lv_aload_n hx hb dX4_narrow_157 rfl (lv_at hl 8 rfl) ?_
    refine k_get hC hK hP iX4 7 0 wf_X4_12 rfl (by decide) rfl rfl dX4_narrow_158 ?_
    refine k_getN hC hN hK hP iX7 8 10 wf_X4_156 rfl (by decide) rfl rfl dX4_narrow_161 ?_
    refine lv_iload_n hx hb dX4_narrow_164 rfl (lv_at hl 10 rfl) ?_
    refine t_iald hC hK hP 6 rfl (by omega) (by omega) (TA.all _) dX4_narrow_165 (fun z17 tz17 => ?_)
    refine lv_aload_n hx hb dX4_narrow_166 rfl (lv_at hl 8 rfl) ?_
    refine k_get hC hK hP iX4 7 2 wf_X4_30 rfl (by decide) rfl rfl dX4_narrow_167 ?_
    refine k_getN hC hN hK hP iX8 1 2 wf_X4_159 rfl (by decide) rfl rfl dX4_narrow_170 ?_
    refine lv_iload_n hx hb dX4_narrow_173 rfl (lv_at hl 9 rfl) ?_
    refine t_iald hC hK hP 4 rfl (by omega) (by omega) (TA.all _) dX4_narrow_174 (fun z18 tz18 => ?_)
    refine lv_imul hx hb dX4_narrow_175 ?_
    refine lv_topi (fun z19 _ => ?_)
    refine lv_istore (lv' := [(11, .int z19), (10, .int r16), (9, .int z15), (8, .int z12), (7, .int z11), (6, .int z8), (5, .int r5), (4, .int 0), (3, .int z1), (0, .ref a0), (1, .int b1), (2, .int b2)]) hx hb dX4_narrow_176 hl (by decide) rfl (fun ls hl => ?_)
    refine lv_iload hx hb dX4_narrow_178 (lv_at hl 2 rfl) ?_
    refine lv_if_le (tgt := 199) hx hb dX4_narrow_180 (by decide) (fun c20 => ?_) (fun c20 => ?_)
    · have dc20 : z15.toInt ≤ 0 := (fa_le _ _).mp c20; have lbc20_0 := i_lo z15; have ubc20_0 := i_hi z15
      refine lv_aload_n hx hb dX4_narrow_199 rfl (lv_at hl 9 rfl) ?_
      refine lv_iload hx hb dX4_narrow_200 (lv_at hl 1 rfl) ?_
      refine lv_if_ge (tgt := 214) hx hb dX4_narrow_202 (by decide) (fun c21 => ?_) (fun c21 => ?_)
      · have dc21 : 0 ≤ r16.toInt := (fa_le _ _).mp c21; have lbc21_1 := i_lo r16; have ubc21_1 := i_hi r16
        refine lv_aload_n hx hb dX4_narrow_214 rfl (lv_at hl 9 rfl) ?_
        refine k_get hC hK hP iX4 7 9 wf_X4_54 rfl (by decide) rfl rfl dX4_narrow_215 ?_
        refine lv_iload hx hb dX4_narrow_218 (lv_at hl 1 rfl) ?_
        refine lv_iload hx hb dX4_narrow_220 (lv_at hl 0 rfl) ?_
        refine lv_iadd hx hb dX4_narrow_222 ?_
        refine lv_topi (fun z22 _ => ?_)
        refine va_mmin hx hb (hml.trans hl.1.symm) hown (hts _ wm_X4_162) (hts _ st_Mmin) (hts _ ini_Math) (hts _ co_Mmin) (Nat.le_of_ble_eq_true rfl) (Nat.le_of_ble_eq_true rfl) (Nat.le_of_ble_eq_true rfl) (Nat.le_of_ble_eq_true rfl) dX4_narrow_223 ?_
        refine t_i (fun q => q.toInt ≤ v_se_9.toInt ∧ q.toInt ≤ z22.toInt ∧ (q.toInt = v_se_9.toInt ∨ q.toInt = z22.toInt)) (min_b v_se_9 z22) (fun z23 tz23 => ?_)
        refine k_put hC hK hP hD hS iX4 tyX4_ok nmX4 7 9 wf_X4_54 rfl (by decide) rfl rfl rfl rfl (Nat.le_of_ble_eq_true rfl) dX4_narrow_226 (fun H locs hP hD hS => ?_)
        have hP : va_P G cl [(a12, .inl (cI, 46, .inl g_cn_how)), (a3, .inr (8, [.ref a8, .ref a9, .ref a10, .ref a11, .ref a12, .ref a13, .ref a14, .int v_cn_7])), (a8, .inl (cI, 46, .inl g_cn_left)), (a9, .inl (cI, 46, .inl g_cn_right)), (a10, .inl (cI, 46, .inl g_cn_year)), (a5, .inl (cI, 6, .inl g_se_weight)), (a21, .inl (cI, 6, .inl g_V_worn)), (a0, .inr (4, [.ref a1, .ref a2, .ref a3, .ref a4, .ref a5, .ref a6, .ref a7, .int v_se_7, .int v_se_8, .int z23, .int v_se_10])), (a1, .inr (7, [.int v_V_0, .int v_V_1, .int v_V_2, .ref a15, .ref a16, .int v_V_5, .ref a17, .ref a18, .ref a19, .ref a20, .ref a21, .ref a22, .ref a23, .ref a24, .ref a25]))] H := hP
        have hD : va_D A [(a12, .inl (cI, 46, .inl g_cn_how)), (a3, .inr (8, [.ref a8, .ref a9, .ref a10, .ref a11, .ref a12, .ref a13, .ref a14, .int v_cn_7])), (a8, .inl (cI, 46, .inl g_cn_left)), (a9, .inl (cI, 46, .inl g_cn_right)), (a10, .inl (cI, 46, .inl g_cn_year)), (a5, .inl (cI, 6, .inl g_se_weight)), (a21, .inl (cI, 6, .inl g_V_worn)), (a0, .inr (4, [.ref a1, .ref a2, .ref a3, .ref a4, .ref a5, .ref a6, .ref a7, .int v_se_7, .int v_se_8, .int z23, .int v_se_10])), (a1, .inr (7, [.int v_V_0, .int v_V_1, .int v_V_2, .ref a15, .ref a16, .int v_V_5, .ref a17, .ref a18, .ref a19, .ref a20, .ref a21, .ref a22, .ref a23, .ref a24, .ref a25]))] := hD
        rw [← hQm]
        exact k_vret hC hr hlk hK hP hD hS (v_se_8, z23) [7, 1, 2, 3, 4, 8, 5, 6, 0] rfl (by decide +kernel) (show 0 ≤ v_se_8.toInt ∧ z23.toInt ≤ 2147483646 from by omega) (Nat.le_of_ble_eq_true rfl) (Nat.le_of_ble_eq_true rfl) dX4_narrow_229
      · have dc21 : r16.toInt < 0 := fa_nle c21; have lbc21_1 := i_lo r16; have ubc21_1 := i_hi r16
        refine lv_aload_n hx hb dX4_narrow_205 rfl (lv_at hl 9 rfl) ?_
        refine k_get hC hK hP iX4 7 8 wf_X4_51 rfl (by decide) rfl rfl dX4_narrow_206 ?_
        refine lv_iconst (v := 1) hx hb dX4_narrow_209 (by decide) ?_
        refine lv_isub hx hb dX4_narrow_210 ?_
        have ubz24_0 := i_hi v_se_8
        refine t_i (fun q => q.toInt = v_se_8.toInt - 1) (sub_i (by have q_ := i_hi v_se_8; show (-2147483648 : Int) ≤ v_se_8.toInt - 1; omega) (by have q_ := i_hi v_se_8; show v_se_8.toInt - 1 ≤ (2147483647 : Int); omega)) (fun z24 tz24 => ?_)
        refine lv_goto (tgt := 226) hx hb dX4_narrow_211 (by decide) ?_
        refine k_put hC hK hP hD hS iX4 tyX4_ok nmX4 7 9 wf_X4_54 rfl (by decide) rfl rfl rfl rfl (Nat.le_of_ble_eq_true rfl) dX4_narrow_226 (fun H locs hP hD hS => ?_)
        have hP : va_P G cl [(a12, .inl (cI, 46, .inl g_cn_how)), (a3, .inr (8, [.ref a8, .ref a9, .ref a10, .ref a11, .ref a12, .ref a13, .ref a14, .int v_cn_7])), (a8, .inl (cI, 46, .inl g_cn_left)), (a9, .inl (cI, 46, .inl g_cn_right)), (a10, .inl (cI, 46, .inl g_cn_year)), (a5, .inl (cI, 6, .inl g_se_weight)), (a21, .inl (cI, 6, .inl g_V_worn)), (a0, .inr (4, [.ref a1, .ref a2, .ref a3, .ref a4, .ref a5, .ref a6, .ref a7, .int v_se_7, .int v_se_8, .int z24, .int v_se_10])), (a1, .inr (7, [.int v_V_0, .int v_V_1, .int v_V_2, .ref a15, .ref a16, .int v_V_5, .ref a17, .ref a18, .ref a19, .ref a20, .ref a21, .ref a22, .ref a23, .ref a24, .ref a25]))] H := hP
        have hD : va_D A [(a12, .inl (cI, 46, .inl g_cn_how)), (a3, .inr (8, [.ref a8, .ref a9, .ref a10, .ref a11, .ref a12, .ref a13, .ref a14, .int v_cn_7])), (a8, .inl (cI, 46, .inl g_cn_left)), (a9, .inl (cI, 46, .inl g_cn_right)), (a10, .inl (cI, 46, .inl g_cn_year)), (a5, .inl (cI, 6, .inl g_se_weight)), (a21, .inl (cI, 6, .inl g_V_worn)), (a0, .inr (4, [.ref a1, .ref a2, .ref a3, .ref a4, .ref a5, .ref a6, .ref a7, .int v_se_7, .int v_se_8, .int z24, .int v_se_10])), (a1, .inr (7, [.int v_V_0, .int v_V_1, .int v_V_2, .ref a15, .ref a16, .int v_V_5, .ref a17, .ref a18, .ref a19, .ref a20, .ref a21, .ref a22, .ref a23, .ref a24, .ref a25]))] := hD
        rw [← hQm]
        exact k_vret hC hr hlk hK hP hD hS (v_se_8, z24) [7, 1, 2, 3, 4, 8, 5, 6, 0] rfl (by decide +kernel) (show 0 ≤ v_se_8.toInt ∧ z24.toInt ≤ 2147483646 from by omega) (Nat.le_of_ble_eq_true rfl) (Nat.le_of_ble_eq_true rfl) dX4_narrow_229
    · have dc20 : 0 < z15.toInt := fa_nle c20; have lbc20_0 := i_lo z15; have ubc20_0 := i_hi z15
      refine lv_aload_n hx hb dX4_narrow_183 rfl (lv_at hl 9 rfl) ?_
      refine lv_aload_n hx hb dX4_narrow_184 rfl (lv_at hl 9 rfl) ?_
      refine k_get hC hK hP iX4 7 8 wf_X4_51 rfl (by decide) rfl rfl dX4_narrow_185 ?_
      refine lv_iload hx hb dX4_narrow_188 (lv_at hl 2 rfl) ?_
      refine lv_iload hx hb dX4_narrow_190 (lv_at hl 0 rfl) ?_
      refine lv_iadd hx hb dX4_narrow_192 ?_
      refine lv_topi (fun z25 _ => ?_)
      refine va_mmax hx hb (hml.trans hl.1.symm) hown (hts _ wm_X4_148) (hts _ st_Mmax) (hts _ ini_Math) (hts _ co_Mmax) (Nat.le_of_ble_eq_true rfl) (Nat.le_of_ble_eq_true rfl) (Nat.le_of_ble_eq_true rfl) (Nat.le_of_ble_eq_true rfl) dX4_narrow_193 ?_
      refine t_i (fun q => v_se_8.toInt ≤ q.toInt ∧ z25.toInt ≤ q.toInt ∧ (q.toInt = v_se_8.toInt ∨ q.toInt = z25.toInt)) (max_b v_se_8 z25) (fun z26 tz26 => ?_)
      refine k_put hC hK hP hD hS iX4 tyX4_ok nmX4 7 8 wf_X4_51 rfl (by decide) rfl rfl rfl rfl (Nat.le_of_ble_eq_true rfl) dX4_narrow_196 (fun H locs hP hD hS => ?_)
      have hP : va_P G cl [(a12, .inl (cI, 46, .inl g_cn_how)), (a3, .inr (8, [.ref a8, .ref a9, .ref a10, .ref a11, .ref a12, .ref a13, .ref a14, .int v_cn_7])), (a8, .inl (cI, 46, .inl g_cn_left)), (a9, .inl (cI, 46, .inl g_cn_right)), (a10, .inl (cI, 46, .inl g_cn_year)), (a5, .inl (cI, 6, .inl g_se_weight)), (a21, .inl (cI, 6, .inl g_V_worn)), (a0, .inr (4, [.ref a1, .ref a2, .ref a3, .ref a4, .ref a5, .ref a6, .ref a7, .int v_se_7, .int z26, .int v_se_9, .int v_se_10])), (a1, .inr (7, [.int v_V_0, .int v_V_1, .int v_V_2, .ref a15, .ref a16, .int v_V_5, .ref a17, .ref a18, .ref a19, .ref a20, .ref a21, .ref a22, .ref a23, .ref a24, .ref a25]))] H := hP
      have hD : va_D A [(a12, .inl (cI, 46, .inl g_cn_how)), (a3, .inr (8, [.ref a8, .ref a9, .ref a10, .ref a11, .ref a12, .ref a13, .ref a14, .int v_cn_7])), (a8, .inl (cI, 46, .inl g_cn_left)), (a9, .inl (cI, 46, .inl g_cn_right)), (a10, .inl (cI, 46, .inl g_cn_year)), (a5, .inl (cI, 6, .inl g_se_weight)), (a21, .inl (cI, 6, .inl g_V_worn)), (a0, .inr (4, [.ref a1, .ref a2, .ref a3, .ref a4, .ref a5, .ref a6, .ref a7, .int v_se_7, .int z26, .int v_se_9, .int v_se_10])), (a1, .inr (7, [.int v_V_0, .int v_V_1, .int v_V_2, .ref a15, .ref a16, .int v_V_5, .ref a17, .ref a18, .ref a19, .ref a20, .ref a21, .ref a22, .ref a23, .ref a24, .ref a25]))] := hD
      refine lv_aload_n hx hb dX4_narrow_199 rfl (lv_at hl 9 rfl) ?_
      refine lv_iload hx hb dX4_narrow_200 (lv_at hl 1 rfl) ?_
      refine lv_if_ge (tgt := 214) hx hb dX4_narrow_202 (by decide) (fun c27 => ?_) (fun c27 => ?_)
      · have dc27 : 0 ≤ r16.toInt := (fa_le _ _).mp c27; have lbc27_1 := i_lo r16; have ubc27_1 := i_hi r16
        refine lv_aload_n hx hb dX4_narrow_214 rfl (lv_at hl 9 rfl) ?_
        refine k_get hC hK hP iX4 7 9 wf_X4_54 rfl (by decide) rfl rfl dX4_narrow_215 ?_
        refine lv_iload hx hb dX4_narrow_218 (lv_at hl 1 rfl) ?_
        refine lv_iload hx hb dX4_narrow_220 (lv_at hl 0 rfl) ?_
        refine lv_iadd hx hb dX4_narrow_222 ?_
        refine lv_topi (fun z28 _ => ?_)
        refine va_mmin hx hb (hml.trans hl.1.symm) hown (hts _ wm_X4_162) (hts _ st_Mmin) (hts _ ini_Math) (hts _ co_Mmin) (Nat.le_of_ble_eq_true rfl) (Nat.le_of_ble_eq_true rfl) (Nat.le_of_ble_eq_true rfl) (Nat.le_of_ble_eq_true rfl) dX4_narrow_223 ?_
        refine t_i (fun q => q.toInt ≤ v_se_9.toInt ∧ q.toInt ≤ z28.toInt ∧ (q.toInt = v_se_9.toInt ∨ q.toInt = z28.toInt)) (min_b v_se_9 z28) (fun z29 tz29 => ?_)
        refine k_put hC hK hP hD hS iX4 tyX4_ok nmX4 7 9 wf_X4_54 rfl (by decide) rfl rfl rfl rfl (Nat.le_of_ble_eq_true rfl) dX4_narrow_226 (fun H locs hP hD hS => ?_)
        have hP : va_P G cl [(a12, .inl (cI, 46, .inl g_cn_how)), (a3, .inr (8, [.ref a8, .ref a9, .ref a10, .ref a11, .ref a12, .ref a13, .ref a14, .int v_cn_7])), (a8, .inl (cI, 46, .inl g_cn_left)), (a9, .inl (cI, 46, .inl g_cn_right)), (a10, .inl (cI, 46, .inl g_cn_year)), (a5, .inl (cI, 6, .inl g_se_weight)), (a21, .inl (cI, 6, .inl g_V_worn)), (a0, .inr (4, [.ref a1, .ref a2, .ref a3, .ref a4, .ref a5, .ref a6, .ref a7, .int v_se_7, .int z26, .int z29, .int v_se_10])), (a1, .inr (7, [.int v_V_0, .int v_V_1, .int v_V_2, .ref a15, .ref a16, .int v_V_5, .ref a17, .ref a18, .ref a19, .ref a20, .ref a21, .ref a22, .ref a23, .ref a24, .ref a25]))] H := hP
        have hD : va_D A [(a12, .inl (cI, 46, .inl g_cn_how)), (a3, .inr (8, [.ref a8, .ref a9, .ref a10, .ref a11, .ref a12, .ref a13, .ref a14, .int v_cn_7])), (a8, .inl (cI, 46, .inl g_cn_left)), (a9, .inl (cI, 46, .inl g_cn_right)), (a10, .inl (cI, 46, .inl g_cn_year)), (a5, .inl (cI, 6, .inl g_se_weight)), (a21, .inl (cI, 6, .inl g_V_worn)), (a0, .inr (4, [.ref a1, .ref a2, .ref a3, .ref a4, .ref a5, .ref a6, .ref a7, .int v_se_7, .int z26, .int z29, .int v_se_10])), (a1, .inr (7, [.int v_V_0, .int v_V_1, .int v_V_2, .ref a15, .ref a16, .int v_V_5, .ref a17, .ref a18, .ref a19, .ref a20, .ref a21, .ref a22, .ref a23, .ref a24, .ref a25]))] := hD
        rw [← hQm]
        exact k_vret hC hr hlk hK hP hD hS (z26, z29) [7, 1, 2, 3, 4, 8, 5, 6, 0] rfl (by decide +kernel) (show 0 ≤ z26.toInt ∧ z29.toInt ≤ 2147483646 from by omega) (Nat.le_of_ble_eq_true rfl) (Nat.le_of_ble_eq_true rfl) dX4_narrow_229
      · have dc27 : r16.toInt < 0 := fa_nle c27; have lbc27_1 := i_lo r16; have ubc27_1 := i_hi r16
        refine lv_aload_n hx hb dX4_narrow_205 rfl (lv_at hl 9 rfl) ?_
        refine k_get hC hK hP iX4 7 8 wf_X4_51 rfl (by decide) rfl rfl dX4_narrow_206 ?_
        refine lv_iconst (v := 1) hx hb dX4_narrow_209 (by decide) ?_
        refine lv_isub hx hb dX4_narrow_210 ?_
        have ubz30_0 := i_hi z26
        refine t_i (fun q => q.toInt = z26.toInt - 1) (sub_i (by have q_ := i_hi z26; show (-2147483648 : Int) ≤ z26.toInt - 1; omega) (by have q_ := i_hi z26; show z26.toInt - 1 ≤ (2147483647 : Int); omega)) (fun z30 tz30 => ?_)
        refine lv_goto (tgt := 226) hx hb dX4_narrow_211 (by decide) ?_
        refine k_put hC hK hP hD hS iX4 tyX4_ok nmX4 7 9 wf_X4_54 rfl (by decide) rfl rfl rfl rfl (Nat.le_of_ble_eq_true rfl) dX4_narrow_226 (fun H locs hP hD hS => ?_)
        have hP : va_P G cl [(a12, .inl (cI, 46, .inl g_cn_how)), (a3, .inr (8, [.ref a8, .ref a9, .ref a10, .ref a11, .ref a12, .ref a13, .ref a14, .int v_cn_7])), (a8, .inl (cI, 46, .inl g_cn_left)), (a9, .inl (cI, 46, .inl g_cn_right)), (a10, .inl (cI, 46, .inl g_cn_year)), (a5, .inl (cI, 6, .inl g_se_weight)), (a21, .inl (cI, 6, .inl g_V_worn)), (a0, .inr (4, [.ref a1, .ref a2, .ref a3, .ref a4, .ref a5, .ref a6, .ref a7, .int v_se_7, .int z26, .int z30, .int v_se_10])), (a1, .inr (7, [.int v_V_0, .int v_V_1, .int v_V_2, .ref a15, .ref a16, .int v_V_5, .ref a17, .ref a18, .ref a19, .ref a20, .ref a21, .ref a22, .ref a23, .ref a24, .ref a25]))] H := hP
        have hD : va_D A [(a12, .inl (cI, 46, .inl g_cn_how)), (a3, .inr (8, [.ref a8, .ref a9, .ref a10, .ref a11, .ref a12, .ref a13, .ref a14, .int v_cn_7])), (a8, .inl (cI, 46, .inl g_cn_left)), (a9, .inl (cI, 46, .inl g_cn_right)), (a10, .inl (cI, 46, .inl g_cn_year)), (a5, .inl (cI, 6, .inl g_se_weight)), (a21, .inl (cI, 6, .inl g_V_worn)), (a0, .inr (4, [.ref a1, .ref a2, .ref a3, .ref a4, .ref a5, .ref a6, .ref a7, .int v_se_7, .int z26, .int z30, .int v_se_10])), (a1, .inr (7, [.int v_V_0, .int v_V_1, .int v_V_2, .ref a15, .ref a16, .int v_V_5, .ref a17, .ref a18, .ref a19, .ref a20, .ref a21, .ref a22, .ref a23, .ref a24, .ref a25]))] := hD
        rw [← hQm]
        exact k_vret hC hr hlk hK hP hD hS (z26, z30) [7, 1, 2, 3, 4, 8, 5, 6, 0] rfl (by decide +kernel) (show 0 ≤ z26.toInt ∧ z30.toInt ≤ 2147483646 from by omega) (Nat.le_of_ble_eq_true rfl) (Nat.le_of_ble_eq_true rfl) dX4_narrow_229
  · have dc4 : z3.toInt ≠ 0 := fa_ne c4
    refine lv_iconst (v := 1) hx hb dX4_narrow_18 (by decide) ?_
    refine lv_goto (tgt := 23) hx hb dX4_narrow_19 (by decide) ?_
    refine lv_istore (lv' := [(4, .int 1), (3, .int z1), (0, .ref a0), (1, .int b1), (2, .int b2)]) hx hb dX4_narrow_23 hl (by decide) rfl (fun ls hl => ?_)
    refine lv_aload_n hx hb dX4_narrow_25 rfl (lv_at hl 2 rfl) ?_
    refine lv_iload_n hx hb dX4_narrow_26 rfl (lv_at hl 3 rfl) ?_
    refine lv_iload_n hx hb dX4_narrow_27 rfl (lv_at hl 1 rfl) ?_
    refine k_ci (wr := [(a12, .inl (cI, 46, .inl g_cn_how))]) (k_rV hC hN hZ hS hA hK hP hD (c85_X4_differenceOf l G cI cJ cB cZ a0 a1 a2 a3 a4 a5 a6 a7 a8 a9 a10 a11 a12 a13 a14 a15 a16 a17 a18 a19 a20 a21 a22 a23 a24 a25 b1 z1 v_se_7 v_se_8 v_se_9 v_se_10 v_cn_7 v_V_0 v_V_1 v_V_2 v_V_5 g_cn_left g_cn_right g_cn_year g_se_weight g_V_worn hv_0 hv_1 hv_4 hv_5 hv_6 hv_7 hv_8 hv_9 hv_10 hv_11 hv_12 hv_13) [0, 1, 2, 3, 4, 5, 6, 7] rfl (by decide +kernel) mi_X4_differenceOf in_X4_differenceOf se_X4_differenceOf wm_X4_136 4 0 rfl rfl rfl hl.1 rfl rfl (Nat.le_of_ble_eq_true rfl) ⟨(Nat.le_of_ble_eq_true rfl), (Nat.le_of_ble_eq_true rfl)⟩ dX4_narrow_28 ⟨(Nat.le_of_ble_eq_true rfl), (Nat.le_of_ble_eq_true rfl)⟩) hP hD hS hA [0, 1, 2, 3, 4, 5, 6, 7] [8] rfl rfl (by decide +kernel) (by decide +kernel) (fun r31 u31 H locs hp hP hD hS => ?_)
    have hp : (True) := hp
    have hP : va_P G cl [(a12, .inl (cI, 46, .inl g_cn_how)), (a0, .inr (4, [.ref a1, .ref a2, .ref a3, .ref a4, .ref a5, .ref a6, .ref a7, .int v_se_7, .int v_se_8, .int v_se_9, .int v_se_10])), (a3, .inr (8, [.ref a8, .ref a9, .ref a10, .ref a11, .ref a12, .ref a13, .ref a14, .int v_cn_7])), (a8, .inl (cI, 46, .inl g_cn_left)), (a9, .inl (cI, 46, .inl g_cn_right)), (a10, .inl (cI, 46, .inl g_cn_year)), (a1, .inr (7, [.int v_V_0, .int v_V_1, .int v_V_2, .ref a15, .ref a16, .int v_V_5, .ref a17, .ref a18, .ref a19, .ref a20, .ref a21, .ref a22, .ref a23, .ref a24, .ref a25])), (a5, .inl (cI, 6, .inl g_se_weight)), (a21, .inl (cI, 6, .inl g_V_worn))] H := hP
    have hD : va_D A [(a12, .inl (cI, 46, .inl g_cn_how)), (a0, .inr (4, [.ref a1, .ref a2, .ref a3, .ref a4, .ref a5, .ref a6, .ref a7, .int v_se_7, .int v_se_8, .int v_se_9, .int v_se_10])), (a3, .inr (8, [.ref a8, .ref a9, .ref a10, .ref a11, .ref a12, .ref a13, .ref a14, .int v_cn_7])), (a8, .inl (cI, 46, .inl g_cn_left)), (a9, .inl (cI, 46, .inl g_cn_right)), (a10, .inl (cI, 46, .inl g_cn_year)), (a1, .inr (7, [.int v_V_0, .int v_V_1, .int v_V_2, .ref a15, .ref a16, .int v_V_5, .ref a17, .ref a18, .ref a19, .ref a20, .ref a21, .ref a22, .ref a23, .ref a24, .ref a25])), (a5, .inl (cI, 6, .inl g_se_weight)), (a21, .inl (cI, 6, .inl g_V_worn))] := hD
    have hq31 := hp
    refine lv_istore (lv' := [(5, .int r31), (4, .int 1), (3, .int z1), (0, .ref a0), (1, .int b1), (2, .int b2)]) hx hb dX4_narrow_31 hl (by decide) rfl (fun ls hl => ?_)
    refine lv_iload hx hb dX4_narrow_33 (lv_at hl 1 rfl) ?_
    refine lv_if_eq (tgt := 57) hx hb dX4_narrow_35 (by decide) (fun c_ => absurd c_ (by decide +kernel)) (fun _ => ?_)
    refine lv_aload_n hx hb dX4_narrow_38 rfl (lv_at hl 3 rfl) ?_
    refine lv_aload_n hx hb dX4_narrow_39 rfl (lv_at hl 3 rfl) ?_
    refine k_get hC hK hP iX4 1 2 wf_X4_30 rfl (by decide) rfl rfl dX4_narrow_40 ?_
    refine k_getN hC hN hK hP iX8 2 4 wf_X4_139 rfl (by decide) rfl rfl dX4_narrow_43 ?_
    refine lv_iload_n hx hb dX4_narrow_46 rfl (lv_at hl 4 rfl) ?_
    refine t_iald hC hK hP 0 rfl (by omega) (by omega) (TA.all _) dX4_narrow_47 (fun z32 tz32 => ?_)
    refine k_ci (wr := [(a12, .inl (cI, 46, .inl g_cn_how)), (a3, .inr (8, [.ref a8, .ref a9, .ref a10, .ref a11, .ref a12, .ref a13, .ref a14, .int v_cn_7])), (a8, .inl (cI, 46, .inl g_cn_left)), (a9, .inl (cI, 46, .inl g_cn_right)), (a10, .inl (cI, 46, .inl g_cn_year)), (a5, .inl (cI, 6, .inl g_se_weight)), (a21, .inl (cI, 6, .inl g_V_worn))]) (k_rV hC hN hZ hS hA hK hP hD (c87_X4_leastShowing l G cI cJ cB cZ a0 a1 a2 a3 a4 a5 a6 a7 a15 a16 a17 a18 a19 a20 a21 a22 a23 a24 a25 z32 v_se_7 v_se_8 v_se_9 v_se_10 v_V_0 v_V_1 v_V_2 v_V_5 hv_4 hv_5 hv_8 hv_9 hv_10 hv_11 hv_12 hv_13) [1, 6] rfl (by decide +kernel) mi_X4_leastShowing in_X4_leastShowing se_X4_leastShowing wm_X4_142 4 1 rfl rfl rfl hl.1 rfl rfl (Nat.le_of_ble_eq_true rfl) ⟨(Nat.le_of_ble_eq_true rfl), (Nat.le_of_ble_eq_true rfl)⟩ dX4_narrow_48 ⟨(Nat.le_of_ble_eq_true rfl), (Nat.le_of_ble_eq_true rfl)⟩) hP hD hS hA [1, 6] [0, 2, 3, 4, 5, 7, 8] rfl rfl (by decide +kernel) (by decide +kernel) (fun r33 u33 H locs hp hP hD hS => ?_)
    have hp : (True) := hp
    have hP : va_P G cl [(a12, .inl (cI, 46, .inl g_cn_how)), (a3, .inr (8, [.ref a8, .ref a9, .ref a10, .ref a11, .ref a12, .ref a13, .ref a14, .int v_cn_7])), (a8, .inl (cI, 46, .inl g_cn_left)), (a9, .inl (cI, 46, .inl g_cn_right)), (a10, .inl (cI, 46, .inl g_cn_year)), (a5, .inl (cI, 6, .inl g_se_weight)), (a21, .inl (cI, 6, .inl g_V_worn)), (a0, .inr (4, [.ref a1, .ref a2, .ref a3, .ref a4, .ref a5, .ref a6, .ref a7, .int v_se_7, .int v_se_8, .int v_se_9, .int v_se_10])), (a1, .inr (7, [.int v_V_0, .int v_V_1, .int v_V_2, .ref a15, .ref a16, .int v_V_5, .ref a17, .ref a18, .ref a19, .ref a20, .ref a21, .ref a22, .ref a23, .ref a24, .ref a25]))] H := hP
    have hD : va_D A [(a12, .inl (cI, 46, .inl g_cn_how)), (a3, .inr (8, [.ref a8, .ref a9, .ref a10, .ref a11, .ref a12, .ref a13, .ref a14, .int v_cn_7])), (a8, .inl (cI, 46, .inl g_cn_left)), (a9, .inl (cI, 46, .inl g_cn_right)), (a10, .inl (cI, 46, .inl g_cn_year)), (a5, .inl (cI, 6, .inl g_se_weight)), (a21, .inl (cI, 6, .inl g_V_worn)), (a0, .inr (4, [.ref a1, .ref a2, .ref a3, .ref a4, .ref a5, .ref a6, .ref a7, .int v_se_7, .int v_se_8, .int v_se_9, .int v_se_10])), (a1, .inr (7, [.int v_V_0, .int v_V_1, .int v_V_2, .ref a15, .ref a16, .int v_V_5, .ref a17, .ref a18, .ref a19, .ref a20, .ref a21, .ref a22, .ref a23, .ref a24, .ref a25]))] := hD
    have hq33 := hp
    refine lv_iload hx hb dX4_narrow_51 (lv_at hl 0 rfl) ?_
    refine lv_isub hx hb dX4_narrow_53 ?_
    refine lv_topi (fun z34 _ => ?_)
    refine lv_goto (tgt := 73) hx hb dX4_narrow_54 (by decide) ?_
    refine lv_istore (lv' := [(6, .int z34), (5, .int r31), (4, .int 1), (3, .int z1), (0, .ref a0), (1, .int b1), (2, .int b2)]) hx hb dX4_narrow_73 hl (by decide) rfl (fun ls hl => ?_)
    refine lv_iload hx hb dX4_narrow_75 (lv_at hl 2 rfl) ?_
    refine lv_if_eq (tgt := 99) hx hb dX4_narrow_77 (by decide) (fun c_ => absurd c_ (by decide +kernel)) (fun _ => ?_)
    refine lv_aload_n hx hb dX4_narrow_80 rfl (lv_at hl 4 rfl) ?_
    refine lv_aload_n hx hb dX4_narrow_81 rfl (lv_at hl 4 rfl) ?_
    refine k_get hC hK hP iX4 7 2 wf_X4_30 rfl (by decide) rfl rfl dX4_narrow_82 ?_
    refine k_getN hC hN hK hP iX8 1 4 wf_X4_139 rfl (by decide) rfl rfl dX4_narrow_85 ?_
    refine lv_iload_n hx hb dX4_narrow_88 rfl (lv_at hl 5 rfl) ?_
    refine t_iald hC hK hP 0 rfl (by omega) (by omega) (TA.all _) dX4_narrow_89 (fun z35 tz35 => ?_)
    refine k_ci (wr := [(a12, .inl (cI, 46, .inl g_cn_how)), (a3, .inr (8, [.ref a8, .ref a9, .ref a10, .ref a11, .ref a12, .ref a13, .ref a14, .int v_cn_7])), (a8, .inl (cI, 46, .inl g_cn_left)), (a9, .inl (cI, 46, .inl g_cn_right)), (a10, .inl (cI, 46, .inl g_cn_year)), (a5, .inl (cI, 6, .inl g_se_weight)), (a21, .inl (cI, 6, .inl g_V_worn))]) (k_rV hC hN hZ hS hA hK hP hD (c86_X4_mostShowing l G cI cJ cB cZ a0 a1 a2 a3 a4 a5 a6 a7 a15 a16 a17 a18 a19 a20 a21 a22 a23 a24 a25 z35 v_se_7 v_se_8 v_se_9 v_se_10 v_V_0 v_V_1 v_V_2 v_V_5 hv_4 hv_5 hv_8 hv_9 hv_10 hv_11 hv_12 hv_13) [7, 8] rfl (by decide +kernel) mi_X4_mostShowing in_X4_mostShowing se_X4_mostShowing wm_X4_145 4 7 rfl rfl rfl hl.1 rfl rfl (Nat.le_of_ble_eq_true rfl) ⟨(Nat.le_of_ble_eq_true rfl), (Nat.le_of_ble_eq_true rfl)⟩ dX4_narrow_90 ⟨(Nat.le_of_ble_eq_true rfl), (Nat.le_of_ble_eq_true rfl)⟩) hP hD hS hA [7, 8] [0, 1, 2, 3, 4, 5, 6] rfl rfl (by decide +kernel) (by decide +kernel) (fun r36 u36 H locs hp hP hD hS => ?_)
    have hp : (True) := hp
    have hP : va_P G cl [(a12, .inl (cI, 46, .inl g_cn_how)), (a3, .inr (8, [.ref a8, .ref a9, .ref a10, .ref a11, .ref a12, .ref a13, .ref a14, .int v_cn_7])), (a8, .inl (cI, 46, .inl g_cn_left)), (a9, .inl (cI, 46, .inl g_cn_right)), (a10, .inl (cI, 46, .inl g_cn_year)), (a5, .inl (cI, 6, .inl g_se_weight)), (a21, .inl (cI, 6, .inl g_V_worn)), (a0, .inr (4, [.ref a1, .ref a2, .ref a3, .ref a4, .ref a5, .ref a6, .ref a7, .int v_se_7, .int v_se_8, .int v_se_9, .int v_se_10])), (a1, .inr (7, [.int v_V_0, .int v_V_1, .int v_V_2, .ref a15, .ref a16, .int v_V_5, .ref a17, .ref a18, .ref a19, .ref a20, .ref a21, .ref a22, .ref a23, .ref a24, .ref a25]))] H := hP
    have hD : va_D A [(a12, .inl (cI, 46, .inl g_cn_how)), (a3, .inr (8, [.ref a8, .ref a9, .ref a10, .ref a11, .ref a12, .ref a13, .ref a14, .int v_cn_7])), (a8, .inl (cI, 46, .inl g_cn_left)), (a9, .inl (cI, 46, .inl g_cn_right)), (a10, .inl (cI, 46, .inl g_cn_year)), (a5, .inl (cI, 6, .inl g_se_weight)), (a21, .inl (cI, 6, .inl g_V_worn)), (a0, .inr (4, [.ref a1, .ref a2, .ref a3, .ref a4, .ref a5, .ref a6, .ref a7, .int v_se_7, .int v_se_8, .int v_se_9, .int v_se_10])), (a1, .inr (7, [.int v_V_0, .int v_V_1, .int v_V_2, .ref a15, .ref a16, .int v_V_5, .ref a17, .ref a18, .ref a19, .ref a20, .ref a21, .ref a22, .ref a23, .ref a24, .ref a25]))] := hD
    have hq36 := hp
    refine lv_iload hx hb dX4_narrow_93 (lv_at hl 1 rfl) ?_
    refine lv_isub hx hb dX4_narrow_95 ?_
    refine lv_topi (fun z37 _ => ?_)
    refine lv_goto (tgt := 115) hx hb dX4_narrow_96 (by decide) ?_
    refine lv_istore (lv' := [(7, .int z37), (6, .int z34), (5, .int r31), (4, .int 1), (3, .int z1), (0, .ref a0), (1, .int b1), (2, .int b2)]) hx hb dX4_narrow_115 hl (by decide) rfl (fun ls hl => ?_)
    refine lv_iload hx hb dX4_narrow_117 (lv_at hl 3 rfl) ?_
    refine lv_if_eq (tgt := 127) hx hb dX4_narrow_119 (by decide) (fun c_ => absurd c_ (by decide +kernel)) (fun _ => ?_)
    refine lv_bipush (v := 100) hx hb dX4_narrow_122 (by decide) ?_
    refine lv_goto (tgt := 135) hx hb dX4_narrow_124 (by decide) ?_
    refine lv_istore (lv' := [(8, .int 100), (7, .int z37), (6, .int z34), (5, .int r31), (4, .int 1), (3, .int z1), (0, .ref a0), (1, .int b1), (2, .int b2)]) hx hb dX4_narrow_135 hl (by decide) rfl (fun ls hl => ?_)
    refine lv_iload hx hb dX4_narrow_137 (lv_at hl 2 rfl) ?_
    refine lv_ineg hx hb dX4_narrow_139 ?_
    refine lv_topi (fun z38 _ => ?_)
    refine lv_iload hx hb dX4_narrow_140 (lv_at hl 0 rfl) ?_
    have l_l40 : (100 : Int32).toInt = 100 := rfl
    refine k_ci (wr := [(a12, .inl (cI, 46, .inl g_cn_how)), (a3, .inr (8, [.ref a8, .ref a9, .ref a10, .ref a11, .ref a12, .ref a13, .ref a14, .int v_cn_7])), (a8, .inl (cI, 46, .inl g_cn_left)), (a9, .inl (cI, 46, .inl g_cn_right)), (a10, .inl (cI, 46, .inl g_cn_year)), (a5, .inl (cI, 6, .inl g_se_weight)), (a21, .inl (cI, 6, .inl g_V_worn)), (a0, .inr (4, [.ref a1, .ref a2, .ref a3, .ref a4, .ref a5, .ref a6, .ref a7, .int v_se_7, .int v_se_8, .int v_se_9, .int v_se_10])), (a1, .inr (7, [.int v_V_0, .int v_V_1, .int v_V_2, .ref a15, .ref a16, .int v_V_5, .ref a17, .ref a18, .ref a19, .ref a20, .ref a21, .ref a22, .ref a23, .ref a24, .ref a25]))]) (k_rS hC hN hZ hS hA hK hP hD (c43_J9_floorDiv_7cf53 l G cI cJ cB cZ z38 100 (by omega)) [] rfl (by decide +kernel) mi_J9_floorDiv_7cf53 st_J9_floorDiv_7cf53 wm_X4_153 hl.1 rfl rfl (Nat.le_of_ble_eq_true rfl) ⟨(Nat.le_of_ble_eq_true rfl), (Nat.le_of_ble_eq_true rfl)⟩ dX4_narrow_142 ⟨(Nat.le_of_ble_eq_true rfl), (Nat.le_of_ble_eq_true rfl)⟩) hP hD hS hA [] [0, 1, 2, 3, 4, 5, 6, 7, 8] rfl rfl (by decide +kernel) (by decide +kernel) (fun r39 u39 H locs hp hP hD hS => ?_)
    have hp : (True) := hp
    have hP : va_P G cl [(a12, .inl (cI, 46, .inl g_cn_how)), (a3, .inr (8, [.ref a8, .ref a9, .ref a10, .ref a11, .ref a12, .ref a13, .ref a14, .int v_cn_7])), (a8, .inl (cI, 46, .inl g_cn_left)), (a9, .inl (cI, 46, .inl g_cn_right)), (a10, .inl (cI, 46, .inl g_cn_year)), (a5, .inl (cI, 6, .inl g_se_weight)), (a21, .inl (cI, 6, .inl g_V_worn)), (a0, .inr (4, [.ref a1, .ref a2, .ref a3, .ref a4, .ref a5, .ref a6, .ref a7, .int v_se_7, .int v_se_8, .int v_se_9, .int v_se_10])), (a1, .inr (7, [.int v_V_0, .int v_V_1, .int v_V_2, .ref a15, .ref a16, .int v_V_5, .ref a17, .ref a18, .ref a19, .ref a20, .ref a21, .ref a22, .ref a23, .ref a24, .ref a25]))] H := hP
    have hD : va_D A [(a12, .inl (cI, 46, .inl g_cn_how)), (a3, .inr (8, [.ref a8, .ref a9, .ref a10, .ref a11, .ref a12, .ref a13, .ref a14, .int v_cn_7])), (a8, .inl (cI, 46, .inl g_cn_left)), (a9, .inl (cI, 46, .inl g_cn_right)), (a10, .inl (cI, 46, .inl g_cn_year)), (a5, .inl (cI, 6, .inl g_se_weight)), (a21, .inl (cI, 6, .inl g_V_worn)), (a0, .inr (4, [.ref a1, .ref a2, .ref a3, .ref a4, .ref a5, .ref a6, .ref a7, .int v_se_7, .int v_se_8, .int v_se_9, .int v_se_10])), (a1, .inr (7, [.int v_V_0, .int v_V_1, .int v_V_2, .ref a15, .ref a16, .int v_V_5, .ref a17, .ref a18, .ref a19, .ref a20, .ref a21, .ref a22, .ref a23, .ref a24, .ref a25]))] := hD
    have hq39 := hp
    refine lv_ineg hx hb dX4_narrow_145 ?_
    refine lv_topi (fun z41 _ => ?_)
    refine lv_istore (lv' := [(9, .int z41), (8, .int 100), (7, .int z37), (6, .int z34), (5, .int r31), (4, .int 1), (3, .int z1), (0, .ref a0), (1, .int b1), (2, .int b2)]) hx hb dX4_narrow_146 hl (by decide) rfl (fun ls hl => ?_)
    refine lv_iload hx hb dX4_narrow_148 (lv_at hl 2 rfl) ?_
    refine lv_iload hx hb dX4_narrow_150 (lv_at hl 1 rfl) ?_
    have l_l43 : (100 : Int32).toInt = 100 := rfl
    refine k_ci (wr := [(a12, .inl (cI, 46, .inl g_cn_how)), (a3, .inr (8, [.ref a8, .ref a9, .ref a10, .ref a11, .ref a12, .ref a13, .ref a14, .int v_cn_7])), (a8, .inl (cI, 46, .inl g_cn_left)), (a9, .inl (cI, 46, .inl g_cn_right)), (a10, .inl (cI, 46, .inl g_cn_year)), (a5, .inl (cI, 6, .inl g_se_weight)), (a21, .inl (cI, 6, .inl g_V_worn)), (a0, .inr (4, [.ref a1, .ref a2, .ref a3, .ref a4, .ref a5, .ref a6, .ref a7, .int v_se_7, .int v_se_8, .int v_se_9, .int v_se_10])), (a1, .inr (7, [.int v_V_0, .int v_V_1, .int v_V_2, .ref a15, .ref a16, .int v_V_5, .ref a17, .ref a18, .ref a19, .ref a20, .ref a21, .ref a22, .ref a23, .ref a24, .ref a25]))]) (k_rS hC hN hZ hS hA hK hP hD (c43_J9_floorDiv_7cf53 l G cI cJ cB cZ z37 100 (by omega)) [] rfl (by decide +kernel) mi_J9_floorDiv_7cf53 st_J9_floorDiv_7cf53 wm_X4_153 hl.1 rfl rfl (Nat.le_of_ble_eq_true rfl) ⟨(Nat.le_of_ble_eq_true rfl), (Nat.le_of_ble_eq_true rfl)⟩ dX4_narrow_152 ⟨(Nat.le_of_ble_eq_true rfl), (Nat.le_of_ble_eq_true rfl)⟩) hP hD hS hA [] [0, 1, 2, 3, 4, 5, 6, 7, 8] rfl rfl (by decide +kernel) (by decide +kernel) (fun r42 u42 H locs hp hP hD hS => ?_)
    have hp : (True) := hp
    have hP : va_P G cl [(a12, .inl (cI, 46, .inl g_cn_how)), (a3, .inr (8, [.ref a8, .ref a9, .ref a10, .ref a11, .ref a12, .ref a13, .ref a14, .int v_cn_7])), (a8, .inl (cI, 46, .inl g_cn_left)), (a9, .inl (cI, 46, .inl g_cn_right)), (a10, .inl (cI, 46, .inl g_cn_year)), (a5, .inl (cI, 6, .inl g_se_weight)), (a21, .inl (cI, 6, .inl g_V_worn)), (a0, .inr (4, [.ref a1, .ref a2, .ref a3, .ref a4, .ref a5, .ref a6, .ref a7, .int v_se_7, .int v_se_8, .int v_se_9, .int v_se_10])), (a1, .inr (7, [.int v_V_0, .int v_V_1, .int v_V_2, .ref a15, .ref a16, .int v_V_5, .ref a17, .ref a18, .ref a19, .ref a20, .ref a21, .ref a22, .ref a23, .ref a24, .ref a25]))] H := hP
    have hD : va_D A [(a12, .inl (cI, 46, .inl g_cn_how)), (a3, .inr (8, [.ref a8, .ref a9, .ref a10, .ref a11, .ref a12, .ref a13, .ref a14, .int v_cn_7])), (a8, .inl (cI, 46, .inl g_cn_left)), (a9, .inl (cI, 46, .inl g_cn_right)), (a10, .inl (cI, 46, .inl g_cn_year)), (a5, .inl (cI, 6, .inl g_se_weight)), (a21, .inl (cI, 6, .inl g_V_worn)), (a0, .inr (4, [.ref a1, .ref a2, .ref a3, .ref a4, .ref a5, .ref a6, .ref a7, .int v_se_7, .int v_se_8, .int v_se_9, .int v_se_10])), (a1, .inr (7, [.int v_V_0, .int v_V_1, .int v_V_2, .ref a15, .ref a16, .int v_V_5, .ref a17, .ref a18, .ref a19, .ref a20, .ref a21, .ref a22, .ref a23, .ref a24, .ref a25]))] := hD
    have hq42 := hp
    refine lv_istore (lv' := [(10, .int r42), (9, .int z41), (8, .int 100), (7, .int z37), (6, .int z34), (5, .int r31), (4, .int 1), (3, .int z1), (0, .ref a0), (1, .int b1), (2, .int b2)]) hx hb dX4_narrow_155 hl (by decide) rfl (fun ls hl => ?_)
    refine lv_aload_n hx hb dX4_narrow_157 rfl (lv_at hl 8 rfl) ?_
    refine k_get hC hK hP iX4 7 0 wf_X4_12 rfl (by decide) rfl rfl dX4_narrow_158 ?_
    refine k_getN hC hN hK hP iX7 8 10 wf_X4_156 rfl (by decide) rfl rfl dX4_narrow_161 ?_
    refine lv_iload_n hx hb dX4_narrow_164 rfl (lv_at hl 10 rfl) ?_
    refine t_iald hC hK hP 6 rfl (by omega) (by omega) (TA.all _) dX4_narrow_165 (fun z44 tz44 => ?_)
    refine lv_aload_n hx hb dX4_narrow_166 rfl (lv_at hl 8 rfl) ?_
    refine k_get hC hK hP iX4 7 2 wf_X4_30 rfl (by decide) rfl rfl dX4_narrow_167 ?_
    refine k_getN hC hN hK hP iX8 1 2 wf_X4_159 rfl (by decide) rfl rfl dX4_narrow_170 ?_
    refine lv_iload_n hx hb dX4_narrow_173 rfl (lv_at hl 9 rfl) ?_
    refine t_iald hC hK hP 4 rfl (by omega) (by omega) (TA.all _) dX4_narrow_174 (fun z45 tz45 => ?_)
    refine lv_imul hx hb dX4_narrow_175 ?_
    refine lv_topi (fun z46 _ => ?_)
    refine lv_istore (lv' := [(11, .int z46), (10, .int r42), (9, .int z41), (8, .int 100), (7, .int z37), (6, .int z34), (5, .int r31), (4, .int 1), (3, .int z1), (0, .ref a0), (1, .int b1), (2, .int b2)]) hx hb dX4_narrow_176 hl (by decide) rfl (fun ls hl => ?_)
    refine lv_iload hx hb dX4_narrow_178 (lv_at hl 2 rfl) ?_
    refine lv_if_le (tgt := 199) hx hb dX4_narrow_180 (by decide) (fun c47 => ?_) (fun c47 => ?_)
    · have dc47 : z41.toInt ≤ 0 := (fa_le _ _).mp c47; have lbc47_0 := i_lo z41; have ubc47_0 := i_hi z41
      refine lv_aload_n hx hb dX4_narrow_199 rfl (lv_at hl 9 rfl) ?_
      refine lv_iload hx hb dX4_narrow_200 (lv_at hl 1 rfl) ?_
      refine lv_if_ge (tgt := 214) hx hb dX4_narrow_202 (by decide) (fun c48 => ?_) (fun c48 => ?_)
      · have dc48 : 0 ≤ r42.toInt := (fa_le _ _).mp c48; have lbc48_1 := i_lo r42; have ubc48_1 := i_hi r42
        refine lv_aload_n hx hb dX4_narrow_214 rfl (lv_at hl 9 rfl) ?_
        refine k_get hC hK hP iX4 7 9 wf_X4_54 rfl (by decide) rfl rfl dX4_narrow_215 ?_
        refine lv_iload hx hb dX4_narrow_218 (lv_at hl 1 rfl) ?_
        refine lv_iload hx hb dX4_narrow_220 (lv_at hl 0 rfl) ?_
        refine lv_iadd hx hb dX4_narrow_222 ?_
        refine lv_topi (fun z49 _ => ?_)
        refine va_mmin hx hb (hml.trans hl.1.symm) hown (hts _ wm_X4_162) (hts _ st_Mmin) (hts _ ini_Math) (hts _ co_Mmin) (Nat.le_of_ble_eq_true rfl) (Nat.le_of_ble_eq_true rfl) (Nat.le_of_ble_eq_true rfl) (Nat.le_of_ble_eq_true rfl) dX4_narrow_223 ?_
        refine t_i (fun q => q.toInt ≤ v_se_9.toInt ∧ q.toInt ≤ z49.toInt ∧ (q.toInt = v_se_9.toInt ∨ q.toInt = z49.toInt)) (min_b v_se_9 z49) (fun z50 tz50 => ?_)
        refine k_put hC hK hP hD hS iX4 tyX4_ok nmX4 7 9 wf_X4_54 rfl (by decide) rfl rfl rfl rfl (Nat.le_of_ble_eq_true rfl) dX4_narrow_226 (fun H locs hP hD hS => ?_)
        have hP : va_P G cl [(a12, .inl (cI, 46, .inl g_cn_how)), (a3, .inr (8, [.ref a8, .ref a9, .ref a10, .ref a11, .ref a12, .ref a13, .ref a14, .int v_cn_7])), (a8, .inl (cI, 46, .inl g_cn_left)), (a9, .inl (cI, 46, .inl g_cn_right)), (a10, .inl (cI, 46, .inl g_cn_year)), (a5, .inl (cI, 6, .inl g_se_weight)), (a21, .inl (cI, 6, .inl g_V_worn)), (a0, .inr (4, [.ref a1, .ref a2, .ref a3, .ref a4, .ref a5, .ref a6, .ref a7, .int v_se_7, .int v_se_8, .int z50, .int v_se_10])), (a1, .inr (7, [.int v_V_0, .int v_V_1, .int v_V_2, .ref a15, .ref a16, .int v_V_5, .ref a17, .ref a18, .ref a19, .ref a20, .ref a21, .ref a22, .ref a23, .ref a24, .ref a25]))] H := hP
        have hD : va_D A [(a12, .inl (cI, 46, .inl g_cn_how)), (a3, .inr (8, [.ref a8, .ref a9, .ref a10, .ref a11, .ref a12, .ref a13, .ref a14, .int v_cn_7])), (a8, .inl (cI, 46, .inl g_cn_left)), (a9, .inl (cI, 46, .inl g_cn_right)), (a10, .inl (cI, 46, .inl g_cn_year)), (a5, .inl (cI, 6, .inl g_se_weight)), (a21, .inl (cI, 6, .inl g_V_worn)), (a0, .inr (4, [.ref a1, .ref a2, .ref a3, .ref a4, .ref a5, .ref a6, .ref a7, .int v_se_7, .int v_se_8, .int z50, .int v_se_10])), (a1, .inr (7, [.int v_V_0, .int v_V_1, .int v_V_2, .ref a15, .ref a16, .int v_V_5, .ref a17, .ref a18, .ref a19, .ref a20, .ref a21, .ref a22, .ref a23, .ref a24, .ref a25]))] := hD
        rw [← hQm]
        exact k_vret hC hr hlk hK hP hD hS (v_se_8, z50) [7, 1, 2, 3, 4, 8, 5, 6, 0] rfl (by decide +kernel) (show 0 ≤ v_se_8.toInt ∧ z50.toInt ≤ 2147483646 from by omega) (Nat.le_of_ble_eq_true rfl) (Nat.le_of_ble_eq_true rfl) dX4_narrow_229
      · have dc48 : r42.toInt < 0 := fa_nle c48; have lbc48_1 := i_lo r42; have ubc48_1 := i_hi r42
        refine lv_aload_n hx hb dX4_narrow_205 rfl (lv_at hl 9 rfl) ?_
        refine k_get hC hK hP iX4 7 8 wf_X4_51 rfl (by decide) rfl rfl dX4_narrow_206 ?_
        refine lv_iconst (v := 1) hx hb dX4_narrow_209 (by decide) ?_
        refine lv_isub hx hb dX4_narrow_210 ?_
        have ubz51_0 := i_hi v_se_8
        refine t_i (fun q => q.toInt = v_se_8.toInt - 1) (sub_i (by have q_ := i_hi v_se_8; show (-2147483648 : Int) ≤ v_se_8.toInt - 1; omega) (by have q_ := i_hi v_se_8; show v_se_8.toInt - 1 ≤ (2147483647 : Int); omega)) (fun z51 tz51 => ?_)
        refine lv_goto (tgt := 226) hx hb dX4_narrow_211 (by decide) ?_
        refine k_put hC hK hP hD hS iX4 tyX4_ok nmX4 7 9 wf_X4_54 rfl (by decide) rfl rfl rfl rfl (Nat.le_of_ble_eq_true rfl) dX4_narrow_226 (fun H locs hP hD hS => ?_)
        have hP : va_P G cl [(a12, .inl (cI, 46, .inl g_cn_how)), (a3, .inr (8, [.ref a8, .ref a9, .ref a10, .ref a11, .ref a12, .ref a13, .ref a14, .int v_cn_7])), (a8, .inl (cI, 46, .inl g_cn_left)), (a9, .inl (cI, 46, .inl g_cn_right)), (a10, .inl (cI, 46, .inl g_cn_year)), (a5, .inl (cI, 6, .inl g_se_weight)), (a21, .inl (cI, 6, .inl g_V_worn)), (a0, .inr (4, [.ref a1, .ref a2, .ref a3, .ref a4, .ref a5, .ref a6, .ref a7, .int v_se_7, .int v_se_8, .int z51, .int v_se_10])), (a1, .inr (7, [.int v_V_0, .int v_V_1, .int v_V_2, .ref a15, .ref a16, .int v_V_5, .ref a17, .ref a18, .ref a19, .ref a20, .ref a21, .ref a22, .ref a23, .ref a24, .ref a25]))] H := hP
        have hD : va_D A [(a12, .inl (cI, 46, .inl g_cn_how)), (a3, .inr (8, [.ref a8, .ref a9, .ref a10, .ref a11, .ref a12, .ref a13, .ref a14, .int v_cn_7])), (a8, .inl (cI, 46, .inl g_cn_left)), (a9, .inl (cI, 46, .inl g_cn_right)), (a10, .inl (cI, 46, .inl g_cn_year)), (a5, .inl (cI, 6, .inl g_se_weight)), (a21, .inl (cI, 6, .inl g_V_worn)), (a0, .inr (4, [.ref a1, .ref a2, .ref a3, .ref a4, .ref a5, .ref a6, .ref a7, .int v_se_7, .int v_se_8, .int z51, .int v_se_10])), (a1, .inr (7, [.int v_V_0, .int v_V_1, .int v_V_2, .ref a15, .ref a16, .int v_V_5, .ref a17, .ref a18, .ref a19, .ref a20, .ref a21, .ref a22, .ref a23, .ref a24, .ref a25]))] := hD
        rw [← hQm]
        exact k_vret hC hr hlk hK hP hD hS (v_se_8, z51) [7, 1, 2, 3, 4, 8, 5, 6, 0] rfl (by decide +kernel) (show 0 ≤ v_se_8.toInt ∧ z51.toInt ≤ 2147483646 from by omega) (Nat.le_of_ble_eq_true rfl) (Nat.le_of_ble_eq_true rfl) dX4_narrow_229
    · have dc47 : 0 < z41.toInt := fa_nle c47; have lbc47_0 := i_lo z41; have ubc47_0 := i_hi z41
      refine lv_aload_n hx hb dX4_narrow_183 rfl (lv_at hl 9 rfl) ?_
      refine lv_aload_n hx hb dX4_narrow_184 rfl (lv_at hl 9 rfl) ?_
      refine k_get hC hK hP iX4 7 8 wf_X4_51 rfl (by decide) rfl rfl dX4_narrow_185 ?_
      refine lv_iload hx hb dX4_narrow_188 (lv_at hl 2 rfl) ?_
      refine lv_iload hx hb dX4_narrow_190 (lv_at hl 0 rfl) ?_
      refine lv_iadd hx hb dX4_narrow_192 ?_
      refine lv_topi (fun z52 _ => ?_)
      refine va_mmax hx hb (hml.trans hl.1.symm) hown (hts _ wm_X4_148) (hts _ st_Mmax) (hts _ ini_Math) (hts _ co_Mmax) (Nat.le_of_ble_eq_true rfl) (Nat.le_of_ble_eq_true rfl) (Nat.le_of_ble_eq_true rfl) (Nat.le_of_ble_eq_true rfl) dX4_narrow_193 ?_
      refine t_i (fun q => v_se_8.toInt ≤ q.toInt ∧ z52.toInt ≤ q.toInt ∧ (q.toInt = v_se_8.toInt ∨ q.toInt = z52.toInt)) (max_b v_se_8 z52) (fun z53 tz53 => ?_)
      refine k_put hC hK hP hD hS iX4 tyX4_ok nmX4 7 8 wf_X4_51 rfl (by decide) rfl rfl rfl rfl (Nat.le_of_ble_eq_true rfl) dX4_narrow_196 (fun H locs hP hD hS => ?_)
      have hP : va_P G cl [(a12, .inl (cI, 46, .inl g_cn_how)), (a3, .inr (8, [.ref a8, .ref a9, .ref a10, .ref a11, .ref a12, .ref a13, .ref a14, .int v_cn_7])), (a8, .inl (cI, 46, .inl g_cn_left)), (a9, .inl (cI, 46, .inl g_cn_right)), (a10, .inl (cI, 46, .inl g_cn_year)), (a5, .inl (cI, 6, .inl g_se_weight)), (a21, .inl (cI, 6, .inl g_V_worn)), (a0, .inr (4, [.ref a1, .ref a2, .ref a3, .ref a4, .ref a5, .ref a6, .ref a7, .int v_se_7, .int z53, .int v_se_9, .int v_se_10])), (a1, .inr (7, [.int v_V_0, .int v_V_1, .int v_V_2, .ref a15, .ref a16, .int v_V_5, .ref a17, .ref a18, .ref a19, .ref a20, .ref a21, .ref a22, .ref a23, .ref a24, .ref a25]))] H := hP
      have hD : va_D A [(a12, .inl (cI, 46, .inl g_cn_how)), (a3, .inr (8, [.ref a8, .ref a9, .ref a10, .ref a11, .ref a12, .ref a13, .ref a14, .int v_cn_7])), (a8, .inl (cI, 46, .inl g_cn_left)), (a9, .inl (cI, 46, .inl g_cn_right)), (a10, .inl (cI, 46, .inl g_cn_year)), (a5, .inl (cI, 6, .inl g_se_weight)), (a21, .inl (cI, 6, .inl g_V_worn)), (a0, .inr (4, [.ref a1, .ref a2, .ref a3, .ref a4, .ref a5, .ref a6, .ref a7, .int v_se_7, .int z53, .int v_se_9, .int v_se_10])), (a1, .inr (7, [.int v_V_0, .int v_V_1, .int v_V_2, .ref a15, .ref a16, .int v_V_5, .ref a17, .ref a18, .ref a19, .ref a20, .ref a21, .ref a22, .ref a23, .ref a24, .ref a25]))] := hD
      refine lv_aload_n hx hb dX4_narrow_199 rfl (lv_at hl 9 rfl) ?_
      refine lv_iload hx hb dX4_narrow_200 (lv_at hl 1 rfl) ?_
      refine lv_if_ge (tgt := 214) hx hb dX4_narrow_202 (by decide) (fun c54 => ?_) (fun c54 => ?_)
      · have dc54 : 0 ≤ r42.toInt := (fa_le _ _).mp c54; have lbc54_1 := i_lo r42; have ubc54_1 := i_hi r42
        refine lv_aload_n hx hb dX4_narrow_214 rfl (lv_at hl 9 rfl) ?_
        refine k_get hC hK hP iX4 7 9 wf_X4_54 rfl (by decide) rfl rfl dX4_narrow_215 ?_
        refine lv_iload hx hb dX4_narrow_218 (lv_at hl 1 rfl) ?_
        refine lv_iload hx hb dX4_narrow_220 (lv_at hl 0 rfl) ?_
        refine lv_iadd hx hb dX4_narrow_222 ?_
        refine lv_topi (fun z55 _ => ?_)
        refine va_mmin hx hb (hml.trans hl.1.symm) hown (hts _ wm_X4_162) (hts _ st_Mmin) (hts _ ini_Math) (hts _ co_Mmin) (Nat.le_of_ble_eq_true rfl) (Nat.le_of_ble_eq_true rfl) (Nat.le_of_ble_eq_true rfl) (Nat.le_of_ble_eq_true rfl) dX4_narrow_223 ?_
        refine t_i (fun q => q.toInt ≤ v_se_9.toInt ∧ q.toInt ≤ z55.toInt ∧ (q.toInt = v_se_9.toInt ∨ q.toInt = z55.toInt)) (min_b v_se_9 z55) (fun z56 tz56 => ?_)
        refine k_put hC hK hP hD hS iX4 tyX4_ok nmX4 7 9 wf_X4_54 rfl (by decide) rfl rfl rfl rfl (Nat.le_of_ble_eq_true rfl) dX4_narrow_226 (fun H locs hP hD hS => ?_)
        have hP : va_P G cl [(a12, .inl (cI, 46, .inl g_cn_how)), (a3, .inr (8, [.ref a8, .ref a9, .ref a10, .ref a11, .ref a12, .ref a13, .ref a14, .int v_cn_7])), (a8, .inl (cI, 46, .inl g_cn_left)), (a9, .inl (cI, 46, .inl g_cn_right)), (a10, .inl (cI, 46, .inl g_cn_year)), (a5, .inl (cI, 6, .inl g_se_weight)), (a21, .inl (cI, 6, .inl g_V_worn)), (a0, .inr (4, [.ref a1, .ref a2, .ref a3, .ref a4, .ref a5, .ref a6, .ref a7, .int v_se_7, .int z53, .int z56, .int v_se_10])), (a1, .inr (7, [.int v_V_0, .int v_V_1, .int v_V_2, .ref a15, .ref a16, .int v_V_5, .ref a17, .ref a18, .ref a19, .ref a20, .ref a21, .ref a22, .ref a23, .ref a24, .ref a25]))] H := hP
        have hD : va_D A [(a12, .inl (cI, 46, .inl g_cn_how)), (a3, .inr (8, [.ref a8, .ref a9, .ref a10, .ref a11, .ref a12, .ref a13, .ref a14, .int v_cn_7])), (a8, .inl (cI, 46, .inl g_cn_left)), (a9, .inl (cI, 46, .inl g_cn_right)), (a10, .inl (cI, 46, .inl g_cn_year)), (a5, .inl (cI, 6, .inl g_se_weight)), (a21, .inl (cI, 6, .inl g_V_worn)), (a0, .inr (4, [.ref a1, .ref a2, .ref a3, .ref a4, .ref a5, .ref a6, .ref a7, .int v_se_7, .int z53, .int z56, .int v_se_10])), (a1, .inr (7, [.int v_V_0, .int v_V_1, .int v_V_2, .ref a15, .ref a16, .int v_V_5, .ref a17, .ref a18, .ref a19, .ref a20, .ref a21, .ref a22, .ref a23, .ref a24, .ref a25]))] := hD
        rw [← hQm]
        exact k_vret hC hr hlk hK hP hD hS (z53, z56) [7, 1, 2, 3, 4, 8, 5, 6, 0] rfl (by decide +kernel) (show 0 ≤ z53.toInt ∧ z56.toInt ≤ 2147483646 from by omega) (Nat.le_of_ble_eq_true rfl) (Nat.le_of_ble_eq_true rfl) dX4_narrow_229
      · have dc54 : r42.toInt < 0 := fa_nle c54; have lbc54_1 := i_lo r42; have ubc54_1 := i_hi r42
        refine lv_aload_n hx hb dX4_narrow_205 rfl (lv_at hl 9 rfl) ?_
        refine k_get hC hK hP iX4 7 8 wf_X4_51 rfl (by decide) rfl rfl dX4_narrow_206 ?_
        refine lv_iconst (v := 1) hx hb dX4_narrow_209 (by decide) ?_
        refine lv_isub hx hb dX4_narrow_210 ?_
        have ubz57_0 := i_hi z53
        refine t_i (fun q => q.toInt = z53.toInt - 1) (sub_i (by have q_ := i_hi z53; show (-2147483648 : Int) ≤ z53.toInt - 1; omega) (by have q_ := i_hi z53; show z53.toInt - 1 ≤ (2147483647 : Int); omega)) (fun z57 tz57 => ?_)
        refine lv_goto (tgt := 226) hx hb dX4_narrow_211 (by decide) ?_
        refine k_put hC hK hP hD hS iX4 tyX4_ok nmX4 7 9 wf_X4_54 rfl (by decide) rfl rfl rfl rfl (Nat.le_of_ble_eq_true rfl) dX4_narrow_226 (fun H locs hP hD hS => ?_)
        have hP : va_P G cl [(a12, .inl (cI, 46, .inl g_cn_how)), (a3, .inr (8, [.ref a8, .ref a9, .ref a10, .ref a11, .ref a12, .ref a13, .ref a14, .int v_cn_7])), (a8, .inl (cI, 46, .inl g_cn_left)), (a9, .inl (cI, 46, .inl g_cn_right)), (a10, .inl (cI, 46, .inl g_cn_year)), (a5, .inl (cI, 6, .inl g_se_weight)), (a21, .inl (cI, 6, .inl g_V_worn)), (a0, .inr (4, [.ref a1, .ref a2, .ref a3, .ref a4, .ref a5, .ref a6, .ref a7, .int v_se_7, .int z53, .int z57, .int v_se_10])), (a1, .inr (7, [.int v_V_0, .int v_V_1, .int v_V_2, .ref a15, .ref a16, .int v_V_5, .ref a17, .ref a18, .ref a19, .ref a20, .ref a21, .ref a22, .ref a23, .ref a24, .ref a25]))] H := hP
        have hD : va_D A [(a12, .inl (cI, 46, .inl g_cn_how)), (a3, .inr (8, [.ref a8, .ref a9, .ref a10, .ref a11, .ref a12, .ref a13, .ref a14, .int v_cn_7])), (a8, .inl (cI, 46, .inl g_cn_left)), (a9, .inl (cI, 46, .inl g_cn_right)), (a10, .inl (cI, 46, .inl g_cn_year)), (a5, .inl (cI, 6, .inl g_se_weight)), (a21, .inl (cI, 6, .inl g_V_worn)), (a0, .inr (4, [.ref a1, .ref a2, .ref a3, .ref a4, .ref a5, .ref a6, .ref a7, .int v_se_7, .int z53, .int z57, .int v_se_10])), (a1, .inr (7, [.int v_V_0, .int v_V_1, .int v_V_2, .ref a15, .ref a16, .int v_V_5, .ref a17, .ref a18, .ref a19, .ref a20, .ref a21, .ref a22, .ref a23, .ref a24, .ref a25]))] := hD
        rw [← hQm]
        exact k_vret hC hr hlk hK hP hD hS (z53, z57) [7, 1, 2, 3, 4, 8, 5, 6, 0] rfl (by decide +kernel) (show 0 ≤ z53.toInt ∧ z57.toInt ≤ 2147483646 from by omega) (Nat.le_of_ble_eq_true rfl) (Nat.le_of_ble_eq_true rfl) dX4_narrow_229
theorem dX4_blameAt_0 : decode cX4_blameAt 0 = .ok (.iconst 0, 1) := by decide +kernel
theorem dX4_blameAt_1 : decode cX4_blameAt 1 = .ok (.istore_n 2, 1) := by decide +kernel
theorem dX4_blameAt_2 : decode cX4_blameAt 2 = .ok (.aload_n 0, 1) := by decide +kernel
theorem dX4_blameAt_3 : decode cX4_blameAt 3 = .ok (.getfield 34, 3) := by decide +kernel
theorem dX4_blameAt_6 : decode cX4_blameAt 6 = .ok (.iload_n 1, 1) := by decide +kernel
theorem dX4_blameAt_7 : decode cX4_blameAt 7 = .ok (.iaload, 1) := by decide +kernel
theorem dX4_blameAt_8 : decode cX4_blameAt 8 = .ok (.istore_n 3, 1) := by decide +kernel
theorem dX4_blameAt_9 : decode cX4_blameAt 9 = .ok (.iload_n 3, 1) := by decide +kernel
theorem dX4_blameAt_10 : decode cX4_blameAt 10 = .ok (.aload_n 0, 1) := by decide +kernel
theorem dX4_blameAt_11 : decode cX4_blameAt 11 = .ok (.getfield 34, 3) := by decide +kernel
theorem dX4_blameAt_14 : decode cX4_blameAt 14 = .ok (.iload_n 1, 1) := by decide +kernel
theorem dX4_blameAt_15 : decode cX4_blameAt 15 = .ok (.iconst 1, 1) := by decide +kernel
theorem dX4_blameAt_16 : decode cX4_blameAt 16 = .ok (.iadd, 1) := by decide +kernel
theorem dX4_blameAt_17 : decode cX4_blameAt 17 = .ok (.iaload, 1) := by decide +kernel
theorem dX4_blameAt_18 : decode cX4_blameAt 18 = .ok (.if_icmp .ge 48, 3) := by decide +kernel
theorem dX4_blameAt_66 : decode cX4_blameAt 66 = .ok (.iload_n 2, 1) := by decide +kernel
theorem dX4_blameAt_67 : decode cX4_blameAt 67 = .ok (.ireturn, 1) := by decide +kernel
theorem dX4_blameAt_21 : decode cX4_blameAt 21 = .ok (.aload_n 0, 1) := by decide +kernel
theorem dX4_blameAt_22 : decode cX4_blameAt 22 = .ok (.getfield 12, 3) := by decide +kernel
theorem dX4_blameAt_25 : decode cX4_blameAt 25 = .ok (.aload_n 0, 1) := by decide +kernel
theorem dX4_blameAt_26 : decode cX4_blameAt 26 = .ok (.iload_n 3, 1) := by decide +kernel
theorem dX4_blameAt_27 : decode cX4_blameAt 27 = .ok (.iconst 0, 1) := by decide +kernel
theorem dX4_blameAt_28 : decode cX4_blameAt 28 = .ok (.invokevirtual 136, 3) := by decide +kernel
theorem dX4_blameAt_31 : decode cX4_blameAt 31 = .ok (.invokevirtual 188, 3) := by decide +kernel
set_option maxRecDepth 100000 in
theorem wm_X4_188 : Cond.methodLink RX4 188 yX7_verdict ∈ gw := gm (List.mem_of_getElem? (i := 874) (by decide +kernel)) rfl
theorem dX4_blameAt_34 : decode cX4_blameAt 34 = .ok (.aload_n 0, 1) := by decide +kernel
theorem dX4_blameAt_35 : decode cX4_blameAt 35 = .ok (.getfield 30, 3) := by decide +kernel
theorem dX4_blameAt_38 : decode cX4_blameAt 38 = .ok (.getfield 139, 3) := by decide +kernel
theorem dX4_blameAt_41 : decode cX4_blameAt 41 = .ok (.iload_n 3, 1) := by decide +kernel
theorem dX4_blameAt_42 : decode cX4_blameAt 42 = .ok (.iaload, 1) := by decide +kernel
theorem dX4_blameAt_43 : decode cX4_blameAt 43 = .ok (.if_icmp .eq 17, 3) := by decide +kernel
theorem dX4_blameAt_60 : decode cX4_blameAt 60 = .ok (.iinc 3 1, 3) := by decide +kernel
theorem dX4_blameAt_63 : decode cX4_blameAt 63 = .ok (.goto (-54), 3) := by decide +kernel
theorem dX4_blameAt_46 : decode cX4_blameAt 46 = .ok (.iload_n 2, 1) := by decide +kernel
theorem dX4_blameAt_47 : decode cX4_blameAt 47 = .ok (.iconst 1, 1) := by decide +kernel
theorem dX4_blameAt_48 : decode cX4_blameAt 48 = .ok (.aload_n 0, 1) := by decide +kernel
theorem dX4_blameAt_49 : decode cX4_blameAt 49 = .ok (.getfield 30, 3) := by decide +kernel
theorem dX4_blameAt_52 : decode cX4_blameAt 52 = .ok (.getfield 78, 3) := by decide +kernel
theorem dX4_blameAt_55 : decode cX4_blameAt 55 = .ok (.iload_n 3, 1) := by decide +kernel
theorem dX4_blameAt_56 : decode cX4_blameAt 56 = .ok (.iaload, 1) := by decide +kernel
theorem dX4_blameAt_57 : decode cX4_blameAt 57 = .ok (.ishl, 1) := by decide +kernel
theorem dX4_blameAt_58 : decode cX4_blameAt 58 = .ok (.ior, 1) := by decide +kernel
theorem dX4_blameAt_59 : decode cX4_blameAt 59 = .ok (.istore_n 2, 1) := by decide +kernel
set_option maxHeartbeats 4000000 in
set_option maxRecDepth 100000 in
theorem c89_X4_blameAt (l : Launch) (G : va_G) (cI cJ cB cZ : ClassId) (a0 a1 a2 a3 a4 a5 a6 a7 a8 a9 a10 a11 a12 a13 a14 a15 a16 a17 a18 a19 a20 a21 a22 a23 a24 a25 : Nat) (b1 : Int32) (v_se_7 : Int32) (v_se_8 : Int32) (v_se_9 : Int32) (v_se_10 : Int32) (v_cn_7 : Int32) (v_V_0 : Int32) (v_V_1 : Int32) (v_V_2 : Int32) (v_V_5 : Int32) (g_se_firstOf : Nat → Int32) (g_cn_left : Nat → Int32) (g_cn_right : Nat → Int32) (g_cn_year : Nat → Int32) (g_se_weight : Nat → Int32) (g_V_worn : Nat → Int32) (g_cn_how : Nat → Int32) (g_cn_trader : Nat → Int32) (hv_0 : 0 ≤ b1.toInt) (hv_1 : b1.toInt ≤ 5) (hv_2 : 0 ≤ v_se_8.toInt) (hv_3 : v_se_9.toInt ≤ 2147483646) (hv_4 : 0 ≤ v_cn_7.toInt) (hv_5 : v_cn_7.toInt ≤ 46) (hv_6 : 0 ≤ v_V_0.toInt) (hv_7 : v_V_0.toInt ≤ 110) (hv_8 : 0 ≤ v_V_1.toInt) (hv_9 : v_V_1.toInt ≤ 110) (hv_10 : 0 ≤ v_V_5.toInt) (hv_11 : v_V_5.toInt ≤ 6) (hT_g_se_firstOf : TA 0 46 g_se_firstOf) : Con l G (TY cI cJ cB cZ) yX4_blameAt cX4_blameAt 4 (some .int) ({ frames := 3, cells := 0, slots := 0, locals := 69 } : Room) [.ref a0, .int b1] [(a0, .inr (4, [.ref a1, .ref a2, .ref a3, .ref a4, .ref a5, .ref a6, .ref a7, .int v_se_7, .int v_se_8, .int v_se_9, .int v_se_10])), (a4, .inl (cI, 7, .inl g_se_firstOf)), (a3, .inr (8, [.ref a8, .ref a9, .ref a10, .ref a11, .ref a12, .ref a13, .ref a14, .int v_cn_7])), (a8, .inl (cI, 46, .inl g_cn_left)), (a9, .inl (cI, 46, .inl g_cn_right)), (a10, .inl (cI, 46, .inl g_cn_year)), (a1, .inr (7, [.int v_V_0, .int v_V_1, .int v_V_2, .ref a15, .ref a16, .int v_V_5, .ref a17, .ref a18, .ref a19, .ref a20, .ref a21, .ref a22, .ref a23, .ref a24, .ref a25])), (a5, .inl (cI, 6, .inl g_se_weight)), (a21, .inl (cI, 6, .inl g_V_worn)), (a12, .inl (cI, 46, .inl g_cn_how)), (a11, .inl (cI, 46, .inl g_cn_trader))] (QI G (TY cI cJ cB cZ) (fun (r : Int32) (u : Unit) => (True)) (fun u : Unit => [(a0, .inr (4, [.ref a1, .ref a2, .ref a3, .ref a4, .ref a5, .ref a6, .ref a7, .int v_se_7, .int v_se_8, .int v_se_9, .int v_se_10])), (a4, .inl (cI, 7, .inl g_se_firstOf)), (a3, .inr (8, [.ref a8, .ref a9, .ref a10, .ref a11, .ref a12, .ref a13, .ref a14, .int v_cn_7])), (a8, .inl (cI, 46, .inl g_cn_left)), (a9, .inl (cI, 46, .inl g_cn_right)), (a10, .inl (cI, 46, .inl g_cn_year)), (a1, .inr (7, [.int v_V_0, .int v_V_1, .int v_V_2, .ref a15, .ref a16, .int v_V_5, .ref a17, .ref a18, .ref a19, .ref a20, .ref a21, .ref a22, .ref a23, .ref a24, .ref a25])), (a5, .inl (cI, 6, .inl g_se_weight)), (a21, .inl (cI, 6, .inl g_V_worn)), (a12, .inl (cI, 46, .inl g_cn_how)), (a11, .inl (cI, 46, .inl g_cn_trader))])) := by
  refine k_met (by decide) (Nat.le_of_ble_eq_true rfl) ?_
  intro p e s m below meth c A ls hC hr hlk hnm hN hZ hK hA hP hD hS hl
  have hl : lv_has ls 4 [(0, .ref a0), (1, .int b1)] := hl
  generalize hQm : MQ below _ _ s _ _ A = Qm
  generalize (List.toArray _ : Array Value) = args at hC hQm ⊢
  obtain ⟨hx, hb, hml, hown, hts⟩ := id hC
  obtain ⟨H, hH⟩ : ∃ q, q = s.heap := ⟨_, rfl⟩
  obtain ⟨locs, hlo⟩ : ∃ q : List Loc, q = [] := ⟨_, rfl⟩
  have hP : va_P G cl [(a0, .inr (4, [.ref a1, .ref a2, .ref a3, .ref a4, .ref a5, .ref a6, .ref a7, .int v_se_7, .int v_se_8, .int v_se_9, .int v_se_10])), (a4, .inl (cI, 7, .inl g_se_firstOf)), (a3, .inr (8, [.ref a8, .ref a9, .ref a10, .ref a11, .ref a12, .ref a13, .ref a14, .int v_cn_7])), (a8, .inl (cI, 46, .inl g_cn_left)), (a9, .inl (cI, 46, .inl g_cn_right)), (a10, .inl (cI, 46, .inl g_cn_year)), (a1, .inr (7, [.int v_V_0, .int v_V_1, .int v_V_2, .ref a15, .ref a16, .int v_V_5, .ref a17, .ref a18, .ref a19, .ref a20, .ref a21, .ref a22, .ref a23, .ref a24, .ref a25])), (a5, .inl (cI, 6, .inl g_se_weight)), (a21, .inl (cI, 6, .inl g_V_worn)), (a12, .inl (cI, 46, .inl g_cn_how)), (a11, .inl (cI, 46, .inl g_cn_trader))] H := by rw [hH]; exact hP
  have hS : va_S A s.heap H locs := by rw [hH, hlo]; exact hS
  rw [← hlo]
  rw [← hH]
  refine lv_iconst (v := 0) hx hb dX4_blameAt_0 (by decide) ?_
  refine lv_istore_n (lv' := [(2, .int 0), (0, .ref a0), (1, .int b1)]) hx hb dX4_blameAt_1 rfl hl (by decide) rfl (fun ls hl => ?_)
  refine lv_aload_n hx hb dX4_blameAt_2 rfl (lv_at hl 1 rfl) ?_
  refine k_get hC hK hP iX4 0 3 wf_X4_34 rfl (by decide) rfl rfl dX4_blameAt_3 ?_
  refine lv_iload_n hx hb dX4_blameAt_6 rfl (lv_at hl 2 rfl) ?_
  refine t_iald hC hK hP 1 rfl (by omega) (by omega) hT_g_se_firstOf dX4_blameAt_7 (fun z1 tz1 => ?_)
  refine lv_istore_n (lv' := [(3, .int z1), (2, .int 0), (0, .ref a0), (1, .int b1)]) hx hb dX4_blameAt_8 rfl hl (by decide) rfl (fun ls hl => ?_)
  have L_9 : ∀ (n : Nat) (x2 : Int32) (x3 : Int32) (H : Heap) (locs : List Loc) (ls : Array Slot), (0 ≤ x2.toInt ∧ x2.toInt ≤ 46) → 46 - x2.toInt < (n : Int) → va_P G cl [(a0, .inr (4, [.ref a1, .ref a2, .ref a3, .ref a4, .ref a5, .ref a6, .ref a7, .int v_se_7, .int v_se_8, .int v_se_9, .int v_se_10])), (a4, .inl (cI, 7, .inl g_se_firstOf)), (a3, .inr (8, [.ref a8, .ref a9, .ref a10, .ref a11, .ref a12, .ref a13, .ref a14, .int v_cn_7])), (a8, .inl (cI, 46, .inl g_cn_left)), (a9, .inl (cI, 46, .inl g_cn_right)), (a10, .inl (cI, 46, .inl g_cn_year)), (a1, .inr (7, [.int v_V_0, .int v_V_1, .int v_V_2, .ref a15, .ref a16, .int v_V_5, .ref a17, .ref a18, .ref a19, .ref a20, .ref a21, .ref a22, .ref a23, .ref a24, .ref a25])), (a5, .inl (cI, 6, .inl g_se_weight)), (a21, .inl (cI, 6, .inl g_V_worn)), (a12, .inl (cI, 46, .inl g_cn_how)), (a11, .inl (cI, 46, .inl g_cn_trader))] H → va_D A [(a0, .inr (4, [.ref a1, .ref a2, .ref a3, .ref a4, .ref a5, .ref a6, .ref a7, .int v_se_7, .int v_se_8, .int v_se_9, .int v_se_10])), (a4, .inl (cI, 7, .inl g_se_firstOf)), (a3, .inr (8, [.ref a8, .ref a9, .ref a10, .ref a11, .ref a12, .ref a13, .ref a14, .int v_cn_7])), (a8, .inl (cI, 46, .inl g_cn_left)), (a9, .inl (cI, 46, .inl g_cn_right)), (a10, .inl (cI, 46, .inl g_cn_year)), (a1, .inr (7, [.int v_V_0, .int v_V_1, .int v_V_2, .ref a15, .ref a16, .int v_V_5, .ref a17, .ref a18, .ref a19, .ref a20, .ref a21, .ref a22, .ref a23, .ref a24, .ref a25])), (a5, .inl (cI, 6, .inl g_se_weight)), (a21, .inl (cI, 6, .inl g_V_worn)), (a12, .inl (cI, 46, .inl g_cn_how)), (a11, .inl (cI, 46, .inl g_cn_trader))] → va_S A s.heap H locs → lv_has ls 4 [(0, .ref a0), (1, .int b1), (2, .int x3), (3, .int x2)] → W p l e ({ frames := 3, cells := 0, slots := 0, locals := 69 } : Room) s m args below meth c H locs 0 0 Qm (F0 m 9 ls []) := by
    intro n
    induction n with
    | zero => intro x2 x3 H locs ls hv hm; omega
    | succ n ih =>
      intro x2 x3 H locs ls hv hm hP hD hS hl
      refine lv_iload_n hx hb dX4_blameAt_9 rfl (lv_at hl 3 rfl) ?_
      refine lv_aload_n hx hb dX4_blameAt_10 rfl (lv_at hl 0 rfl) ?_
      refine k_get hC hK hP iX4 0 3 wf_X4_34 rfl (by decide) rfl rfl dX4_blameAt_11 ?_
      refine lv_iload_n hx hb dX4_blameAt_14 rfl (lv_at hl 1 rfl) ?_
      refine lv_iconst (v := 1) hx hb dX4_blameAt_15 (by decide) ?_
      refine lv_iadd hx hb dX4_blameAt_16 ?_
      refine t_i (fun q => q.toInt = b1.toInt + 1) (add_i (by show (-2147483648 : Int) ≤ b1.toInt + 1; omega) (by show b1.toInt + 1 ≤ (2147483647 : Int); omega)) (fun z4 tz4 => ?_)
      refine t_iald hC hK hP 1 rfl (by omega) (by omega) hT_g_se_firstOf dX4_blameAt_17 (fun z5 tz5 => ?_)
      refine lv_icmp_ge (tgt := 66) hx hb dX4_blameAt_18 (by decide) (fun c6 => ?_) (fun c6 => ?_)
      · have dc6 : z5.toInt ≤ x2.toInt := (fa_le _ _).mp c6
        refine lv_iload_n hx hb dX4_blameAt_66 rfl (lv_at hl 2 rfl) ?_
        rw [← hQm]
        exact k_iret hC hr hlk hK hP hD hS () [0, 1, 2, 3, 4, 5, 6, 7, 8, 9, 10] rfl (by decide +kernel) trivial (Nat.le_of_ble_eq_true rfl) (Nat.le_of_ble_eq_true rfl) dX4_blameAt_67
      · have dc6 : x2.toInt < z5.toInt := fa_nle c6
        refine lv_aload_n hx hb dX4_blameAt_21 rfl (lv_at hl 0 rfl) ?_
        refine k_get hC hK hP iX4 0 0 wf_X4_12 rfl (by decide) rfl rfl dX4_blameAt_22 ?_
        refine lv_aload_n hx hb dX4_blameAt_25 rfl (lv_at hl 0 rfl) ?_
        refine lv_iload_n hx hb dX4_blameAt_26 rfl (lv_at hl 3 rfl) ?_
        refine lv_iconst (v := 0) hx hb dX4_blameAt_27 (by decide) ?_
        have l_l8 : (0 : Int32).toInt = 0 := rfl
        refine k_ci (wr := [(a4, .inl (cI, 7, .inl g_se_firstOf)), (a12, .inl (cI, 46, .inl g_cn_how)), (a11, .inl (cI, 46, .inl g_cn_trader))]) (k_rV hC hN hZ hS hA hK hP hD (c85_X4_differenceOf l G cI cJ cB cZ a0 a1 a2 a3 a4 a5 a6 a7 a8 a9 a10 a11 a12 a13 a14 a15 a16 a17 a18 a19 a20 a21 a22 a23 a24 a25 x2 0 v_se_7 v_se_8 v_se_9 v_se_10 v_cn_7 v_V_0 v_V_1 v_V_2 v_V_5 g_cn_left g_cn_right g_cn_year g_se_weight g_V_worn (by omega) (by omega) hv_2 hv_3 hv_4 hv_5 hv_6 hv_7 hv_8 hv_9 hv_10 hv_11) [0, 2, 3, 4, 5, 6, 7, 8] rfl (by decide +kernel) mi_X4_differenceOf in_X4_differenceOf se_X4_differenceOf wm_X4_136 4 0 rfl rfl rfl hl.1 rfl rfl (Nat.le_of_ble_eq_true rfl) ⟨(Nat.le_of_ble_eq_true rfl), (Nat.le_of_ble_eq_true rfl)⟩ dX4_blameAt_28 ⟨(Nat.le_of_ble_eq_true rfl), (Nat.le_of_ble_eq_true rfl)⟩) hP hD hS hA [0, 2, 3, 4, 5, 6, 7, 8] [1, 9, 10] rfl rfl (by decide +kernel) (by decide +kernel) (fun r7 u7 H locs hp hP hD hS => ?_)
        have hp : (True) := hp
        have hP : va_P G cl [(a4, .inl (cI, 7, .inl g_se_firstOf)), (a12, .inl (cI, 46, .inl g_cn_how)), (a11, .inl (cI, 46, .inl g_cn_trader)), (a0, .inr (4, [.ref a1, .ref a2, .ref a3, .ref a4, .ref a5, .ref a6, .ref a7, .int v_se_7, .int v_se_8, .int v_se_9, .int v_se_10])), (a3, .inr (8, [.ref a8, .ref a9, .ref a10, .ref a11, .ref a12, .ref a13, .ref a14, .int v_cn_7])), (a8, .inl (cI, 46, .inl g_cn_left)), (a9, .inl (cI, 46, .inl g_cn_right)), (a10, .inl (cI, 46, .inl g_cn_year)), (a1, .inr (7, [.int v_V_0, .int v_V_1, .int v_V_2, .ref a15, .ref a16, .int v_V_5, .ref a17, .ref a18, .ref a19, .ref a20, .ref a21, .ref a22, .ref a23, .ref a24, .ref a25])), (a5, .inl (cI, 6, .inl g_se_weight)), (a21, .inl (cI, 6, .inl g_V_worn))] H := hP
        have hD : va_D A [(a4, .inl (cI, 7, .inl g_se_firstOf)), (a12, .inl (cI, 46, .inl g_cn_how)), (a11, .inl (cI, 46, .inl g_cn_trader)), (a0, .inr (4, [.ref a1, .ref a2, .ref a3, .ref a4, .ref a5, .ref a6, .ref a7, .int v_se_7, .int v_se_8, .int v_se_9, .int v_se_10])), (a3, .inr (8, [.ref a8, .ref a9, .ref a10, .ref a11, .ref a12, .ref a13, .ref a14, .int v_cn_7])), (a8, .inl (cI, 46, .inl g_cn_left)), (a9, .inl (cI, 46, .inl g_cn_right)), (a10, .inl (cI, 46, .inl g_cn_year)), (a1, .inr (7, [.int v_V_0, .int v_V_1, .int v_V_2, .ref a15, .ref a16, .int v_V_5, .ref a17, .ref a18, .ref a19, .ref a20, .ref a21, .ref a22, .ref a23, .ref a24, .ref a25])), (a5, .inl (cI, 6, .inl g_se_weight)), (a21, .inl (cI, 6, .inl g_V_worn))] := hD
        have hq7 := hp
        refine k_ci (wr := [(a4, .inl (cI, 7, .inl g_se_firstOf)), (a12, .inl (cI, 46, .inl g_cn_how)), (a11, .inl (cI, 46, .inl g_cn_trader)), (a0, .inr (4, [.ref a1, .ref a2, .ref a3, .ref a4, .ref a5, .ref a6, .ref a7, .int v_se_7, .int v_se_8, .int v_se_9, .int v_se_10])), (a3, .inr (8, [.ref a8, .ref a9, .ref a10, .ref a11, .ref a12, .ref a13, .ref a14, .int v_cn_7])), (a8, .inl (cI, 46, .inl g_cn_left)), (a9, .inl (cI, 46, .inl g_cn_right)), (a10, .inl (cI, 46, .inl g_cn_year)), (a5, .inl (cI, 6, .inl g_se_weight)), (a21, .inl (cI, 6, .inl g_V_worn))]) (k_rV hC hN hZ hS hA hK hP hD (c39_X7_verdict l G cI cJ cB cZ a1 a15 a16 a17 a18 a19 a20 a21 a22 a23 a24 a25 r7 v_V_0 v_V_1 v_V_2 v_V_5 hv_6 hv_7 hv_8 hv_9 hv_10 hv_11) [8] rfl (by decide +kernel) mi_X7_verdict in_X7_verdict se_X7_verdict wm_X4_188 7 8 rfl rfl rfl hl.1 rfl rfl (Nat.le_of_ble_eq_true rfl) ⟨(Nat.le_of_ble_eq_true rfl), (Nat.le_of_ble_eq_true rfl)⟩ dX4_blameAt_31 ⟨(Nat.le_of_ble_eq_true rfl), (Nat.le_of_ble_eq_true rfl)⟩) hP hD hS hA [8] [0, 1, 2, 3, 4, 5, 6, 7, 9, 10] rfl rfl (by decide +kernel) (by decide +kernel) (fun r9 u9 H locs hp hP hD hS => ?_)
        have hp : (0 ≤ r9.toInt ∧ r9.toInt ≤ 2) := hp
        have hP : va_P G cl [(a4, .inl (cI, 7, .inl g_se_firstOf)), (a12, .inl (cI, 46, .inl g_cn_how)), (a11, .inl (cI, 46, .inl g_cn_trader)), (a0, .inr (4, [.ref a1, .ref a2, .ref a3, .ref a4, .ref a5, .ref a6, .ref a7, .int v_se_7, .int v_se_8, .int v_se_9, .int v_se_10])), (a3, .inr (8, [.ref a8, .ref a9, .ref a10, .ref a11, .ref a12, .ref a13, .ref a14, .int v_cn_7])), (a8, .inl (cI, 46, .inl g_cn_left)), (a9, .inl (cI, 46, .inl g_cn_right)), (a10, .inl (cI, 46, .inl g_cn_year)), (a5, .inl (cI, 6, .inl g_se_weight)), (a21, .inl (cI, 6, .inl g_V_worn)), (a1, .inr (7, [.int v_V_0, .int v_V_1, .int v_V_2, .ref a15, .ref a16, .int v_V_5, .ref a17, .ref a18, .ref a19, .ref a20, .ref a21, .ref a22, .ref a23, .ref a24, .ref a25]))] H := hP
        have hD : va_D A [(a4, .inl (cI, 7, .inl g_se_firstOf)), (a12, .inl (cI, 46, .inl g_cn_how)), (a11, .inl (cI, 46, .inl g_cn_trader)), (a0, .inr (4, [.ref a1, .ref a2, .ref a3, .ref a4, .ref a5, .ref a6, .ref a7, .int v_se_7, .int v_se_8, .int v_se_9, .int v_se_10])), (a3, .inr (8, [.ref a8, .ref a9, .ref a10, .ref a11, .ref a12, .ref a13, .ref a14, .int v_cn_7])), (a8, .inl (cI, 46, .inl g_cn_left)), (a9, .inl (cI, 46, .inl g_cn_right)), (a10, .inl (cI, 46, .inl g_cn_year)), (a5, .inl (cI, 6, .inl g_se_weight)), (a21, .inl (cI, 6, .inl g_V_worn)), (a1, .inr (7, [.int v_V_0, .int v_V_1, .int v_V_2, .ref a15, .ref a16, .int v_V_5, .ref a17, .ref a18, .ref a19, .ref a20, .ref a21, .ref a22, .ref a23, .ref a24, .ref a25]))] := hD
        have hq9 := hp
        refine lv_aload_n hx hb dX4_blameAt_34 rfl (lv_at hl 0 rfl) ?_
        refine k_get hC hK hP iX4 3 2 wf_X4_30 rfl (by decide) rfl rfl dX4_blameAt_35 ?_
        refine k_getN hC hN hK hP iX8 4 4 wf_X4_139 rfl (by decide) rfl rfl dX4_blameAt_38 ?_
        refine lv_iload_n hx hb dX4_blameAt_41 rfl (lv_at hl 3 rfl) ?_
        refine t_iald hC hK hP 1 rfl (by omega) (by omega) (TA.all _) dX4_blameAt_42 (fun z10 tz10 => ?_)
        refine lv_icmp_eq (tgt := 60) hx hb dX4_blameAt_43 (by decide) (fun c11 => ?_) (fun c11 => ?_)
        · have dc11 : r9.toInt = z10.toInt := (fa_eq _ _).mp c11; have lbc11_1 := i_lo z10; have ubc11_1 := i_hi z10
          obtain ⟨z12, ez12⟩ : ∃ q : Int32, q = x2 + Int32.ofInt 1 := ⟨_, rfl⟩
          have tz12 : z12.toInt = x2.toInt + 1 := by rw [ez12]; exact add_i (y := 1) (by have p_ := i_lo x2; show _ ≤ _ + (1 : Int); omega) (by have q_ := i_hi x2; show _ + (1 : Int) ≤ _; omega)
          refine lv_iinc (v := z12) (lv' := [(3, .int z12), (0, .ref a0), (1, .int b1), (2, .int x3)]) hx hb dX4_blameAt_60 hl (k := 3) rfl ez12.symm (by decide) rfl (fun ls hl => ?_)
          refine lv_goto (tgt := 9) hx hb dX4_blameAt_63 (by decide) ?_
          exact ih  z12 x3 H locs ls (by omega) (by omega) (hP.subm [3, 0, 4, 5, 6, 7, 10, 8, 9, 1, 2] rfl) (hD.sub [3, 0, 4, 5, 6, 7, 10, 8, 9, 1, 2] (by decide +kernel) rfl) hS (lv_sub hl [1, 2, 3, 0] rfl)
        · have dc11 : r9.toInt ≠ z10.toInt := fa_ne c11; have lbc11_1 := i_lo z10; have ubc11_1 := i_hi z10
          refine lv_iload_n hx hb dX4_blameAt_46 rfl (lv_at hl 2 rfl) ?_
          refine lv_iconst (v := 1) hx hb dX4_blameAt_47 (by decide) ?_
          refine lv_aload_n hx hb dX4_blameAt_48 rfl (lv_at hl 0 rfl) ?_
          refine k_get hC hK hP iX4 3 2 wf_X4_30 rfl (by decide) rfl rfl dX4_blameAt_49 ?_
          refine k_getN hC hN hK hP iX8 4 3 wf_X4_78 rfl (by decide) rfl rfl dX4_blameAt_52 ?_
          refine lv_iload_n hx hb dX4_blameAt_55 rfl (lv_at hl 3 rfl) ?_
          refine t_iald hC hK hP 2 rfl (by omega) (by omega) (TA.all _) dX4_blameAt_56 (fun z13 tz13 => ?_)
          refine lv_ishl hx hb dX4_blameAt_57 ?_
          refine lv_topi (fun z14 _ => ?_)
          refine lv_ior hx hb dX4_blameAt_58 ?_
          refine lv_topi (fun z15 _ => ?_)
          refine lv_istore_n (lv' := [(2, .int z15), (0, .ref a0), (1, .int b1), (3, .int x2)]) hx hb dX4_blameAt_59 rfl hl (by decide) rfl (fun ls hl => ?_)
          obtain ⟨z16, ez16⟩ : ∃ q : Int32, q = x2 + Int32.ofInt 1 := ⟨_, rfl⟩
          have tz16 : z16.toInt = x2.toInt + 1 := by rw [ez16]; exact add_i (y := 1) (by have p_ := i_lo x2; show _ ≤ _ + (1 : Int); omega) (by have q_ := i_hi x2; show _ + (1 : Int) ≤ _; omega)
          refine lv_iinc (v := z16) (lv' := [(3, .int z16), (2, .int z15), (0, .ref a0), (1, .int b1)]) hx hb dX4_blameAt_60 hl (k := 3) rfl ez16.symm (by decide) rfl (fun ls hl => ?_)
          refine lv_goto (tgt := 9) hx hb dX4_blameAt_63 (by decide) ?_
          exact ih  z16 z15 H locs ls (by omega) (by omega) (hP.subm [3, 0, 4, 5, 6, 7, 10, 8, 9, 1, 2] rfl) (hD.sub [3, 0, 4, 5, 6, 7, 10, 8, 9, 1, 2] (by decide +kernel) rfl) hS (lv_sub hl [2, 3, 1, 0] rfl)
  have l_l17 : (0 : Int32).toInt = 0 := rfl
  exact L_9 47 z1 0 H locs ls (by omega) (by omega) (hP.subm [0, 1, 2, 3, 4, 5, 6, 7, 8, 9, 10] rfl) (hD.sub [0, 1, 2, 3, 4, 5, 6, 7, 8, 9, 10] (by decide +kernel) rfl) hS (lv_sub hl [2, 3, 1, 0] rfl)
theorem dJ6_bitCount_0f7a4_0 : decode cJ6_bitCount_0f7a4 0 = .ok (.iload_n 0, 1) := by decide +kernel
theorem dJ6_bitCount_0f7a4_1 : decode cJ6_bitCount_0f7a4 1 = .ok (.iload_n 0, 1) := by decide +kernel
theorem dJ6_bitCount_0f7a4_2 : decode cJ6_bitCount_0f7a4 2 = .ok (.iconst 1, 1) := by decide +kernel
theorem dJ6_bitCount_0f7a4_3 : decode cJ6_bitCount_0f7a4 3 = .ok (.iushr, 1) := by decide +kernel
theorem dJ6_bitCount_0f7a4_4 : decode cJ6_bitCount_0f7a4 4 = .ok (.ldc_w 265, 3) := by decide +kernel
set_option maxRecDepth 100000 in
theorem kc_J6_265 : Cond.constant RJ6 265 1431655765 ∈ gw := gm (List.mem_of_getElem? (i := 858) (by decide +kernel)) rfl
theorem dJ6_bitCount_0f7a4_7 : decode cJ6_bitCount_0f7a4 7 = .ok (.iand, 1) := by decide +kernel
theorem dJ6_bitCount_0f7a4_8 : decode cJ6_bitCount_0f7a4 8 = .ok (.isub, 1) := by decide +kernel
theorem dJ6_bitCount_0f7a4_9 : decode cJ6_bitCount_0f7a4 9 = .ok (.istore_n 0, 1) := by decide +kernel
theorem dJ6_bitCount_0f7a4_10 : decode cJ6_bitCount_0f7a4 10 = .ok (.iload_n 0, 1) := by decide +kernel
theorem dJ6_bitCount_0f7a4_11 : decode cJ6_bitCount_0f7a4 11 = .ok (.ldc_w 266, 3) := by decide +kernel
set_option maxRecDepth 100000 in
theorem kc_J6_266 : Cond.constant RJ6 266 858993459 ∈ gw := gm (List.mem_of_getElem? (i := 859) (by decide +kernel)) rfl
theorem dJ6_bitCount_0f7a4_14 : decode cJ6_bitCount_0f7a4 14 = .ok (.iand, 1) := by decide +kernel
theorem dJ6_bitCount_0f7a4_15 : decode cJ6_bitCount_0f7a4 15 = .ok (.iload_n 0, 1) := by decide +kernel
theorem dJ6_bitCount_0f7a4_16 : decode cJ6_bitCount_0f7a4 16 = .ok (.iconst 2, 1) := by decide +kernel
theorem dJ6_bitCount_0f7a4_17 : decode cJ6_bitCount_0f7a4 17 = .ok (.iushr, 1) := by decide +kernel
theorem dJ6_bitCount_0f7a4_18 : decode cJ6_bitCount_0f7a4 18 = .ok (.ldc_w 266, 3) := by decide +kernel
theorem dJ6_bitCount_0f7a4_21 : decode cJ6_bitCount_0f7a4 21 = .ok (.iand, 1) := by decide +kernel
theorem dJ6_bitCount_0f7a4_22 : decode cJ6_bitCount_0f7a4 22 = .ok (.iadd, 1) := by decide +kernel
theorem dJ6_bitCount_0f7a4_23 : decode cJ6_bitCount_0f7a4 23 = .ok (.istore_n 0, 1) := by decide +kernel
theorem dJ6_bitCount_0f7a4_24 : decode cJ6_bitCount_0f7a4 24 = .ok (.iload_n 0, 1) := by decide +kernel
theorem dJ6_bitCount_0f7a4_25 : decode cJ6_bitCount_0f7a4 25 = .ok (.iload_n 0, 1) := by decide +kernel
theorem dJ6_bitCount_0f7a4_26 : decode cJ6_bitCount_0f7a4 26 = .ok (.iconst 4, 1) := by decide +kernel
theorem dJ6_bitCount_0f7a4_27 : decode cJ6_bitCount_0f7a4 27 = .ok (.iushr, 1) := by decide +kernel
theorem dJ6_bitCount_0f7a4_28 : decode cJ6_bitCount_0f7a4 28 = .ok (.iadd, 1) := by decide +kernel
theorem dJ6_bitCount_0f7a4_29 : decode cJ6_bitCount_0f7a4 29 = .ok (.ldc_w 267, 3) := by decide +kernel
set_option maxRecDepth 100000 in
theorem kc_J6_267 : Cond.constant RJ6 267 252645135 ∈ gw := gm (List.mem_of_getElem? (i := 860) (by decide +kernel)) rfl
theorem dJ6_bitCount_0f7a4_32 : decode cJ6_bitCount_0f7a4 32 = .ok (.iand, 1) := by decide +kernel
theorem dJ6_bitCount_0f7a4_33 : decode cJ6_bitCount_0f7a4 33 = .ok (.istore_n 0, 1) := by decide +kernel
theorem dJ6_bitCount_0f7a4_34 : decode cJ6_bitCount_0f7a4 34 = .ok (.iload_n 0, 1) := by decide +kernel
theorem dJ6_bitCount_0f7a4_35 : decode cJ6_bitCount_0f7a4 35 = .ok (.iload_n 0, 1) := by decide +kernel
theorem dJ6_bitCount_0f7a4_36 : decode cJ6_bitCount_0f7a4 36 = .ok (.bipush 8, 2) := by decide +kernel
theorem dJ6_bitCount_0f7a4_38 : decode cJ6_bitCount_0f7a4 38 = .ok (.iushr, 1) := by decide +kernel
theorem dJ6_bitCount_0f7a4_39 : decode cJ6_bitCount_0f7a4 39 = .ok (.iadd, 1) := by decide +kernel
theorem dJ6_bitCount_0f7a4_40 : decode cJ6_bitCount_0f7a4 40 = .ok (.istore_n 0, 1) := by decide +kernel
theorem dJ6_bitCount_0f7a4_41 : decode cJ6_bitCount_0f7a4 41 = .ok (.iload_n 0, 1) := by decide +kernel
theorem dJ6_bitCount_0f7a4_42 : decode cJ6_bitCount_0f7a4 42 = .ok (.iload_n 0, 1) := by decide +kernel
theorem dJ6_bitCount_0f7a4_43 : decode cJ6_bitCount_0f7a4 43 = .ok (.bipush 16, 2) := by decide +kernel
theorem dJ6_bitCount_0f7a4_45 : decode cJ6_bitCount_0f7a4 45 = .ok (.iushr, 1) := by decide +kernel
theorem dJ6_bitCount_0f7a4_46 : decode cJ6_bitCount_0f7a4 46 = .ok (.iadd, 1) := by decide +kernel
theorem dJ6_bitCount_0f7a4_47 : decode cJ6_bitCount_0f7a4 47 = .ok (.istore_n 0, 1) := by decide +kernel
theorem dJ6_bitCount_0f7a4_48 : decode cJ6_bitCount_0f7a4 48 = .ok (.iload_n 0, 1) := by decide +kernel
theorem dJ6_bitCount_0f7a4_49 : decode cJ6_bitCount_0f7a4 49 = .ok (.bipush 63, 2) := by decide +kernel
theorem dJ6_bitCount_0f7a4_51 : decode cJ6_bitCount_0f7a4 51 = .ok (.iand, 1) := by decide +kernel
theorem dJ6_bitCount_0f7a4_52 : decode cJ6_bitCount_0f7a4 52 = .ok (.ireturn, 1) := by decide +kernel
set_option maxHeartbeats 4000000 in
set_option maxRecDepth 100000 in
theorem c90_J6_bitCount_0f7a4 (l : Launch) (G : va_G) (cI cJ cB cZ : ClassId) (b0 : Int32) : Con l G (TY cI cJ cB cZ) yJ6_bitCount_0f7a4 cJ6_bitCount_0f7a4 1 (some .int) ({ frames := 0, cells := 0, slots := 0, locals := 0 } : Room) [.int b0] [] (QI G (TY cI cJ cB cZ) (fun (r : Int32) (u : Unit) => (0 ≤ r.toInt ∧ r.toInt ≤ 63)) (fun u : Unit => [])) := by
  refine k_met (by decide) (Nat.le_of_ble_eq_true rfl) ?_
  intro p e s m below meth c A ls hC hr hlk hnm hN hZ hK hA hP hD hS hl
  have hl : lv_has ls 1 [(0, .int b0)] := hl
  generalize hQm : MQ below _ _ s _ _ A = Qm
  generalize (List.toArray _ : Array Value) = args at hC hQm ⊢
  obtain ⟨hx, hb, hml, hown, hts⟩ := id hC
  obtain ⟨H, hH⟩ : ∃ q, q = s.heap := ⟨_, rfl⟩
  obtain ⟨locs, hlo⟩ : ∃ q : List Loc, q = [] := ⟨_, rfl⟩
  have hP : va_P G cl [] H := by rw [hH]; exact hP
  have hS : va_S A s.heap H locs := by rw [hH, hlo]; exact hS
  rw [← hlo]
  rw [← hH]
  refine lv_iload_n hx hb dJ6_bitCount_0f7a4_0 rfl (lv_at hl 0 rfl) ?_
  refine lv_iload_n hx hb dJ6_bitCount_0f7a4_1 rfl (lv_at hl 0 rfl) ?_
  refine lv_iconst (v := 1) hx hb dJ6_bitCount_0f7a4_2 (by decide) ?_
  refine lv_iushr hx hb dJ6_bitCount_0f7a4_3 rfl ?_
  refine lv_topi (fun z1 _ => ?_)
  refine lv_ldcw (v := 1431655765) hx hb hown (hts _ kc_J6_265) dJ6_bitCount_0f7a4_4 ?_
  refine lv_iand hx hb dJ6_bitCount_0f7a4_7 ?_
  refine t_i (fun q => 0 ≤ q.toInt ∧ q.toInt ≤ 1431655765) (by have h_ := and_b (x := z1) (y := 1431655765) (by decide); exact h_) (fun z2 tz2 => ?_)
  refine lv_isub hx hb dJ6_bitCount_0f7a4_8 ?_
  refine lv_topi (fun z3 _ => ?_)
  refine lv_istore_n (lv' := [(0, .int z3)]) hx hb dJ6_bitCount_0f7a4_9 rfl hl (by decide) rfl (fun ls hl => ?_)
  refine lv_iload_n hx hb dJ6_bitCount_0f7a4_10 rfl (lv_at hl 0 rfl) ?_
  refine lv_ldcw (v := 858993459) hx hb hown (hts _ kc_J6_266) dJ6_bitCount_0f7a4_11 ?_
  refine lv_iand hx hb dJ6_bitCount_0f7a4_14 ?_
  refine t_i (fun q => 0 ≤ q.toInt ∧ q.toInt ≤ 858993459) (by have h_ := and_b (x := z3) (y := 858993459) (by decide); exact h_) (fun z4 tz4 => ?_)
  refine lv_iload_n hx hb dJ6_bitCount_0f7a4_15 rfl (lv_at hl 0 rfl) ?_
  refine lv_iconst (v := 2) hx hb dJ6_bitCount_0f7a4_16 (by decide) ?_
  refine lv_iushr hx hb dJ6_bitCount_0f7a4_17 rfl ?_
  refine lv_topi (fun z5 _ => ?_)
  refine lv_ldcw (v := 858993459) hx hb hown (hts _ kc_J6_266) dJ6_bitCount_0f7a4_18 ?_
  refine lv_iand hx hb dJ6_bitCount_0f7a4_21 ?_
  refine t_i (fun q => 0 ≤ q.toInt ∧ q.toInt ≤ 858993459) (by have h_ := and_b (x := z5) (y := 858993459) (by decide); exact h_) (fun z6 tz6 => ?_)
  refine lv_iadd hx hb dJ6_bitCount_0f7a4_22 ?_
  refine t_i (fun q => q.toInt = z4.toInt + z6.toInt) (add_i (by show (-2147483648 : Int) ≤ z4.toInt + z6.toInt; omega) (by show z4.toInt + z6.toInt ≤ (2147483647 : Int); omega)) (fun z7 tz7 => ?_)
  refine lv_istore_n (lv' := [(0, .int z7)]) hx hb dJ6_bitCount_0f7a4_23 rfl hl (by decide) rfl (fun ls hl => ?_)
  refine lv_iload_n hx hb dJ6_bitCount_0f7a4_24 rfl (lv_at hl 0 rfl) ?_
  refine lv_iload_n hx hb dJ6_bitCount_0f7a4_25 rfl (lv_at hl 0 rfl) ?_
  refine lv_iconst (v := 4) hx hb dJ6_bitCount_0f7a4_26 (by decide) ?_
  refine lv_iushr hx hb dJ6_bitCount_0f7a4_27 rfl ?_
  refine lv_topi (fun z8 _ => ?_)
  refine lv_iadd hx hb dJ6_bitCount_0f7a4_28 ?_
  refine lv_topi (fun z9 _ => ?_)
  refine lv_ldcw (v := 252645135) hx hb hown (hts _ kc_J6_267) dJ6_bitCount_0f7a4_29 ?_
  refine lv_iand hx hb dJ6_bitCount_0f7a4_32 ?_
  refine t_i (fun q => 0 ≤ q.toInt ∧ q.toInt ≤ 252645135) (by have h_ := and_b (x := z9) (y := 252645135) (by decide); exact h_) (fun z10 tz10 => ?_)
  refine lv_istore_n (lv' := [(0, .int z10)]) hx hb dJ6_bitCount_0f7a4_33 rfl hl (by decide) rfl (fun ls hl => ?_)
  refine lv_iload_n hx hb dJ6_bitCount_0f7a4_34 rfl (lv_at hl 0 rfl) ?_
  refine lv_iload_n hx hb dJ6_bitCount_0f7a4_35 rfl (lv_at hl 0 rfl) ?_
  refine lv_bipush (v := 8) hx hb dJ6_bitCount_0f7a4_36 (by decide) ?_
  refine lv_iushr hx hb dJ6_bitCount_0f7a4_38 rfl ?_
  refine lv_topi (fun z11 _ => ?_)
  refine lv_iadd hx hb dJ6_bitCount_0f7a4_39 ?_
  refine lv_topi (fun z12 _ => ?_)
  refine lv_istore_n (lv' := [(0, .int z12)]) hx hb dJ6_bitCount_0f7a4_40 rfl hl (by decide) rfl (fun ls hl => ?_)
  refine lv_iload_n hx hb dJ6_bitCount_0f7a4_41 rfl (lv_at hl 0 rfl) ?_
  refine lv_iload_n hx hb dJ6_bitCount_0f7a4_42 rfl (lv_at hl 0 rfl) ?_
  refine lv_bipush (v := 16) hx hb dJ6_bitCount_0f7a4_43 (by decide) ?_
  refine lv_iushr hx hb dJ6_bitCount_0f7a4_45 rfl ?_
  refine lv_topi (fun z13 _ => ?_)
  refine lv_iadd hx hb dJ6_bitCount_0f7a4_46 ?_
  refine lv_topi (fun z14 _ => ?_)
  refine lv_istore_n (lv' := [(0, .int z14)]) hx hb dJ6_bitCount_0f7a4_47 rfl hl (by decide) rfl (fun ls hl => ?_)
  refine lv_iload_n hx hb dJ6_bitCount_0f7a4_48 rfl (lv_at hl 0 rfl) ?_
  refine lv_bipush (v := 63) hx hb dJ6_bitCount_0f7a4_49 (by decide) ?_
  refine lv_iand hx hb dJ6_bitCount_0f7a4_51 ?_
  refine t_i (fun q => 0 ≤ q.toInt ∧ q.toInt ≤ 63) (by have h_ := and_b (x := z14) (y := 63) (by decide); exact h_) (fun z15 tz15 => ?_)
  rw [← hQm]
  exact k_iret hC hr hlk hK hP hD hS () [] rfl (by decide +kernel) (show 0 ≤ z15.toInt ∧ z15.toInt ≤ 63 from by omega) (Nat.le_of_ble_eq_true rfl) (Nat.le_of_ble_eq_true rfl) dJ6_bitCount_0f7a4_52
theorem dX4_isBetter_0 : decode cX4_isBetter 0 = .ok (.aload_n 0, 1) := by decide +kernel
theorem dX4_isBetter_1 : decode cX4_isBetter 1 = .ok (.getfield 57, 3) := by decide +kernel
set_option maxRecDepth 100000 in
theorem wf_X4_57 : Cond.fieldLink RX4 57 "StoneTrust$Search" "blamed" "I" ∈ gw := gm (List.mem_of_getElem? (i := 421) (by decide +kernel)) rfl
theorem dX4_isBetter_4 : decode cX4_isBetter 4 = .ok (.ifCond .ge 5, 3) := by decide +kernel
theorem dX4_isBetter_9 : decode cX4_isBetter 9 = .ok (.iload_n 1, 1) := by decide +kernel
theorem dX4_isBetter_10 : decode cX4_isBetter 10 = .ok (.invokestatic 183, 3) := by decide +kernel
set_option maxRecDepth 100000 in
theorem wm_X4_183 : Cond.methodLink RX4 183 yJ6_bitCount_0f7a4 ∈ gw := gm (List.mem_of_getElem? (i := 855) (by decide +kernel)) rfl
set_option maxRecDepth 100000 in
theorem mi_J6_bitCount_0f7a4 : MI yJ6_bitCount_0f7a4 cJ6_bitCount_0f7a4 1 (some .int) 1 := ⟨gm (List.mem_of_getElem? (i := 857) rfl) rfl, gm (List.mem_of_getElem? (i := 125) (by decide +kernel)) rfl, by decide, by decide, by decide +kernel⟩
set_option maxRecDepth 100000 in
theorem st_J6_bitCount_0f7a4 : Cond.static yJ6_bitCount_0f7a4 ∈ gw := gm (List.mem_of_getElem? (i := 856) (by decide +kernel)) rfl
theorem dX4_isBetter_13 : decode cX4_isBetter 13 = .ok (.aload_n 0, 1) := by decide +kernel
theorem dX4_isBetter_14 : decode cX4_isBetter 14 = .ok (.getfield 57, 3) := by decide +kernel
theorem dX4_isBetter_17 : decode cX4_isBetter 17 = .ok (.invokestatic 183, 3) := by decide +kernel
theorem dX4_isBetter_20 : decode cX4_isBetter 20 = .ok (.isub, 1) := by decide +kernel
theorem dX4_isBetter_21 : decode cX4_isBetter 21 = .ok (.istore_n 2, 1) := by decide +kernel
theorem dX4_isBetter_22 : decode cX4_isBetter 22 = .ok (.iload_n 2, 1) := by decide +kernel
theorem dX4_isBetter_23 : decode cX4_isBetter 23 = .ok (.ifCond .lt 15, 3) := by decide +kernel
theorem dX4_isBetter_38 : decode cX4_isBetter 38 = .ok (.iconst 1, 1) := by decide +kernel
theorem dX4_isBetter_39 : decode cX4_isBetter 39 = .ok (.goto 4, 3) := by decide +kernel
theorem dX4_isBetter_43 : decode cX4_isBetter 43 = .ok (.ireturn, 1) := by decide +kernel
theorem dX4_isBetter_26 : decode cX4_isBetter 26 = .ok (.iload_n 2, 1) := by decide +kernel
theorem dX4_isBetter_27 : decode cX4_isBetter 27 = .ok (.ifCond .ne 15, 3) := by decide +kernel
theorem dX4_isBetter_42 : decode cX4_isBetter 42 = .ok (.iconst 0, 1) := by decide +kernel
theorem dX4_isBetter_30 : decode cX4_isBetter 30 = .ok (.iload_n 1, 1) := by decide +kernel
theorem dX4_isBetter_31 : decode cX4_isBetter 31 = .ok (.aload_n 0, 1) := by decide +kernel
theorem dX4_isBetter_32 : decode cX4_isBetter 32 = .ok (.getfield 57, 3) := by decide +kernel
theorem dX4_isBetter_35 : decode cX4_isBetter 35 = .ok (.if_icmp .ge 7, 3) := by decide +kernel
theorem dX4_isBetter_7 : decode cX4_isBetter 7 = .ok (.iconst 1, 1) := by decide +kernel
theorem dX4_isBetter_8 : decode cX4_isBetter 8 = .ok (.ireturn, 1) := by decide +kernel
set_option maxHeartbeats 4000000 in
set_option maxRecDepth 100000 in
theorem c91_X4_isBetter (l : Launch) (G : va_G) (cI cJ cB cZ : ClassId) (a0 a1 a2 a3 a4 a5 a6 a7 : Nat) (b1 : Int32) (v_se_7 : Int32) (v_se_8 : Int32) (v_se_9 : Int32) (v_se_10 : Int32) (hv_0 : 0 ≤ v_se_8.toInt) (hv_1 : v_se_9.toInt ≤ 2147483646) : Con l G (TY cI cJ cB cZ) yX4_isBetter cX4_isBetter 3 (some .boolean) ({ frames := 1, cells := 0, slots := 0, locals := 20 } : Room) [.ref a0, .int b1] [(a0, .inr (4, [.ref a1, .ref a2, .ref a3, .ref a4, .ref a5, .ref a6, .ref a7, .int v_se_7, .int v_se_8, .int v_se_9, .int v_se_10]))] (QI G (TY cI cJ cB cZ) (fun (r : Int32) (u : Unit) => (0 ≤ r.toInt ∧ r.toInt ≤ 1)) (fun u : Unit => [(a0, .inr (4, [.ref a1, .ref a2, .ref a3, .ref a4, .ref a5, .ref a6, .ref a7, .int v_se_7, .int v_se_8, .int v_se_9, .int v_se_10]))])) := by
  refine k_met (by decide) (Nat.le_of_ble_eq_true rfl) ?_
  intro p e s m below meth c A ls hC hr hlk hnm hN hZ hK hA hP hD hS hl
  have hl : lv_has ls 3 [(0, .ref a0), (1, .int b1)] := hl
  generalize hQm : MQ below _ _ s _ _ A = Qm
  generalize (List.toArray _ : Array Value) = args at hC hQm ⊢
  obtain ⟨hx, hb, hml, hown, hts⟩ := id hC
  obtain ⟨H, hH⟩ : ∃ q, q = s.heap := ⟨_, rfl⟩
  obtain ⟨locs, hlo⟩ : ∃ q : List Loc, q = [] := ⟨_, rfl⟩
  have hP : va_P G cl [(a0, .inr (4, [.ref a1, .ref a2, .ref a3, .ref a4, .ref a5, .ref a6, .ref a7, .int v_se_7, .int v_se_8, .int v_se_9, .int v_se_10]))] H := by rw [hH]; exact hP
  have hS : va_S A s.heap H locs := by rw [hH, hlo]; exact hS
  rw [← hlo]
  rw [← hH]
  refine lv_aload_n hx hb dX4_isBetter_0 rfl (lv_at hl 0 rfl) ?_
  refine k_get hC hK hP iX4 0 10 wf_X4_57 rfl (by decide) rfl rfl dX4_isBetter_1 ?_
  refine lv_if_ge (tgt := 9) hx hb dX4_isBetter_4 (by decide) (fun c1 => ?_) (fun c1 => ?_)
  · have dc1 : 0 ≤ v_se_10.toInt := (fa_le _ _).mp c1; have lbc1_1 := i_lo v_se_10; have ubc1_1 := i_hi v_se_10
    refine lv_iload_n hx hb dX4_isBetter_9 rfl (lv_at hl 1 rfl) ?_
    refine k_ci (wr := [(a0, .inr (4, [.ref a1, .ref a2, .ref a3, .ref a4, .ref a5, .ref a6, .ref a7, .int v_se_7, .int v_se_8, .int v_se_9, .int v_se_10]))]) (k_rS hC hN hZ hS hA hK hP hD (c90_J6_bitCount_0f7a4 l G cI cJ cB cZ b1) [] rfl (by decide +kernel) mi_J6_bitCount_0f7a4 st_J6_bitCount_0f7a4 wm_X4_183 hl.1 rfl rfl (Nat.le_of_ble_eq_true rfl) ⟨(Nat.le_of_ble_eq_true rfl), (Nat.le_of_ble_eq_true rfl)⟩ dX4_isBetter_10 ⟨(Nat.le_of_ble_eq_true rfl), (Nat.le_of_ble_eq_true rfl)⟩) hP hD hS hA [] [0] rfl rfl (by decide +kernel) (by decide +kernel) (fun r2 u2 H locs hp hP hD hS => ?_)
    have hp : (0 ≤ r2.toInt ∧ r2.toInt ≤ 63) := hp
    have hP : va_P G cl [(a0, .inr (4, [.ref a1, .ref a2, .ref a3, .ref a4, .ref a5, .ref a6, .ref a7, .int v_se_7, .int v_se_8, .int v_se_9, .int v_se_10]))] H := hP
    have hD : va_D A [(a0, .inr (4, [.ref a1, .ref a2, .ref a3, .ref a4, .ref a5, .ref a6, .ref a7, .int v_se_7, .int v_se_8, .int v_se_9, .int v_se_10]))] := hD
    have hq2 := hp
    refine lv_aload_n hx hb dX4_isBetter_13 rfl (lv_at hl 0 rfl) ?_
    refine k_get hC hK hP iX4 0 10 wf_X4_57 rfl (by decide) rfl rfl dX4_isBetter_14 ?_
    refine k_ci (wr := [(a0, .inr (4, [.ref a1, .ref a2, .ref a3, .ref a4, .ref a5, .ref a6, .ref a7, .int v_se_7, .int v_se_8, .int v_se_9, .int v_se_10]))]) (k_rS hC hN hZ hS hA hK hP hD (c90_J6_bitCount_0f7a4 l G cI cJ cB cZ v_se_10) [] rfl (by decide +kernel) mi_J6_bitCount_0f7a4 st_J6_bitCount_0f7a4 wm_X4_183 hl.1 rfl rfl (Nat.le_of_ble_eq_true rfl) ⟨(Nat.le_of_ble_eq_true rfl), (Nat.le_of_ble_eq_true rfl)⟩ dX4_isBetter_17 ⟨(Nat.le_of_ble_eq_true rfl), (Nat.le_of_ble_eq_true rfl)⟩) hP hD hS hA [] [0] rfl rfl (by decide +kernel) (by decide +kernel) (fun r3 u3 H locs hp hP hD hS => ?_)
    have hp : (0 ≤ r3.toInt ∧ r3.toInt ≤ 63) := hp
    have hP : va_P G cl [(a0, .inr (4, [.ref a1, .ref a2, .ref a3, .ref a4, .ref a5, .ref a6, .ref a7, .int v_se_7, .int v_se_8, .int v_se_9, .int v_se_10]))] H := hP
    have hD : va_D A [(a0, .inr (4, [.ref a1, .ref a2, .ref a3, .ref a4, .ref a5, .ref a6, .ref a7, .int v_se_7, .int v_se_8, .int v_se_9, .int v_se_10]))] := hD
    have hq3 := hp
    refine lv_isub hx hb dX4_isBetter_20 ?_
    refine t_i (fun q => q.toInt = r2.toInt - r3.toInt) (sub_i (by show (-2147483648 : Int) ≤ r2.toInt - r3.toInt; omega) (by show r2.toInt - r3.toInt ≤ (2147483647 : Int); omega)) (fun z4 tz4 => ?_)
    refine lv_istore_n (lv' := [(2, .int z4), (0, .ref a0), (1, .int b1)]) hx hb dX4_isBetter_21 rfl hl (by decide) rfl (fun ls hl => ?_)
    refine lv_iload_n hx hb dX4_isBetter_22 rfl (lv_at hl 0 rfl) ?_
    refine lv_if_lt (tgt := 38) hx hb dX4_isBetter_23 (by decide) (fun c5 => ?_) (fun c5 => ?_)
    · have dc5 : z4.toInt < 0 := (fa_lt _ _).mp c5
      refine lv_iconst (v := 1) hx hb dX4_isBetter_38 (by decide) ?_
      refine lv_goto (tgt := 43) hx hb dX4_isBetter_39 (by decide) ?_
      have l_l6 : (1 : Int32).toInt = 1 := rfl
      rw [← hQm]
      exact k_zret hC hr hlk hK hP hD hS () [0] rfl (by decide +kernel) rfl (show 0 ≤ (1 : Int32).toInt ∧ (1 : Int32).toInt ≤ 1 from by omega) (Nat.le_of_ble_eq_true rfl) (Nat.le_of_ble_eq_true rfl) dX4_isBetter_43
    · have dc5 : 0 ≤ z4.toInt := fa_nlt c5
      refine lv_iload_n hx hb dX4_isBetter_26 rfl (lv_at hl 0 rfl) ?_
      refine lv_if_ne (tgt := 42) hx hb dX4_isBetter_27 (by decide) (fun c7 => ?_) (fun c7 => ?_)
      · have dc7 : z4.toInt ≠ 0 := fa_ne c7
        refine lv_iconst (v := 0) hx hb dX4_isBetter_42 (by decide) ?_
        have l_l8 : (0 : Int32).toInt = 0 := rfl
        rw [← hQm]
        exact k_zret hC hr hlk hK hP hD hS () [0] rfl (by decide +kernel) rfl (show 0 ≤ (0 : Int32).toInt ∧ (0 : Int32).toInt ≤ 1 from by omega) (Nat.le_of_ble_eq_true rfl) (Nat.le_of_ble_eq_true rfl) dX4_isBetter_43
      · have dc7 : z4.toInt = 0 := (fa_eq _ _).mp c7
        refine lv_iload_n hx hb dX4_isBetter_30 rfl (lv_at hl 2 rfl) ?_
        refine lv_aload_n hx hb dX4_isBetter_31 rfl (lv_at hl 1 rfl) ?_
        refine k_get hC hK hP iX4 0 10 wf_X4_57 rfl (by decide) rfl rfl dX4_isBetter_32 ?_
        refine lv_icmp_ge (tgt := 42) hx hb dX4_isBetter_35 (by decide) (fun c9 => ?_) (fun c9 => ?_)
        · have dc9 : v_se_10.toInt ≤ b1.toInt := (fa_le _ _).mp c9; have ubc9_0 := i_hi v_se_10; have lbc9_1 := i_lo b1; have ubc9_1 := i_hi b1
          refine lv_iconst (v := 0) hx hb dX4_isBetter_42 (by decide) ?_
          have l_l10 : (0 : Int32).toInt = 0 := rfl
          rw [← hQm]
          exact k_zret hC hr hlk hK hP hD hS () [0] rfl (by decide +kernel) rfl (show 0 ≤ (0 : Int32).toInt ∧ (0 : Int32).toInt ≤ 1 from by omega) (Nat.le_of_ble_eq_true rfl) (Nat.le_of_ble_eq_true rfl) dX4_isBetter_43
        · have dc9 : b1.toInt < v_se_10.toInt := fa_nle c9; have ubc9_0 := i_hi v_se_10; have lbc9_1 := i_lo b1; have ubc9_1 := i_hi b1
          refine lv_iconst (v := 1) hx hb dX4_isBetter_38 (by decide) ?_
          refine lv_goto (tgt := 43) hx hb dX4_isBetter_39 (by decide) ?_
          have l_l11 : (1 : Int32).toInt = 1 := rfl
          rw [← hQm]
          exact k_zret hC hr hlk hK hP hD hS () [0] rfl (by decide +kernel) rfl (show 0 ≤ (1 : Int32).toInt ∧ (1 : Int32).toInt ≤ 1 from by omega) (Nat.le_of_ble_eq_true rfl) (Nat.le_of_ble_eq_true rfl) dX4_isBetter_43
  · have dc1 : v_se_10.toInt < 0 := fa_nle c1; have lbc1_1 := i_lo v_se_10; have ubc1_1 := i_hi v_se_10
    refine lv_iconst (v := 1) hx hb dX4_isBetter_7 (by decide) ?_
    have l_l12 : (1 : Int32).toInt = 1 := rfl
    rw [← hQm]
    exact k_zret hC hr hlk hK hP hD hS () [0] rfl (by decide +kernel) rfl (show 0 ≤ (1 : Int32).toInt ∧ (1 : Int32).toInt ≤ 1 from by omega) (Nat.le_of_ble_eq_true rfl) (Nat.le_of_ble_eq_true rfl) dX4_isBetter_8
theorem dX4_layBlaming_0 : decode cX4_layBlaming 0 = .ok (.aload_n 0, 1) := by decide +kernel
theorem dX4_layBlaming_1 : decode cX4_layBlaming 1 = .ok (.iload_n 2, 1) := by decide +kernel
theorem dX4_layBlaming_2 : decode cX4_layBlaming 2 = .ok (.invokevirtual 176, 3) := by decide +kernel
set_option maxRecDepth 100000 in
theorem wm_X4_176 : Cond.methodLink RX4 176 yX4_isBetter ∈ gw := gm (List.mem_of_getElem? (i := 851) (by decide +kernel)) rfl
set_option maxRecDepth 100000 in
theorem mi_X4_isBetter : MI yX4_isBetter cX4_isBetter 3 (some .boolean) 1 := ⟨gm (List.mem_of_getElem? (i := 854) rfl) rfl, gm (List.mem_of_getElem? (i := 120) (by decide +kernel)) rfl, by decide, by decide, by decide +kernel⟩
set_option maxRecDepth 100000 in
theorem in_X4_isBetter : Cond.instanceMethod yX4_isBetter ∈ gw := gm (List.mem_of_getElem? (i := 853) (by decide +kernel)) rfl
set_option maxRecDepth 100000 in
theorem se_X4_isBetter : Cond.selects yX4_isBetter.cls yX4_isBetter yX4_isBetter ∈ gw := gm (List.mem_of_getElem? (i := 27) (by decide +kernel)) rfl
theorem dX4_layBlaming_5 : decode cX4_layBlaming 5 = .ok (.ifCond .ne 4, 3) := by decide +kernel
theorem dX4_layBlaming_9 : decode cX4_layBlaming 9 = .ok (.iload_n 1, 1) := by decide +kernel
theorem dX4_layBlaming_10 : decode cX4_layBlaming 10 = .ok (.aload_n 0, 1) := by decide +kernel
theorem dX4_layBlaming_11 : decode cX4_layBlaming 11 = .ok (.getfield 12, 3) := by decide +kernel
theorem dX4_layBlaming_14 : decode cX4_layBlaming 14 = .ok (.getfield 109, 3) := by decide +kernel
theorem dX4_layBlaming_17 : decode cX4_layBlaming 17 = .ok (.if_icmp .ge 9, 3) := by decide +kernel
theorem dX4_layBlaming_26 : decode cX4_layBlaming 26 = .ok (.aload_n 0, 1) := by decide +kernel
theorem dX4_layBlaming_27 : decode cX4_layBlaming 27 = .ok (.iload_n 2, 1) := by decide +kernel
theorem dX4_layBlaming_28 : decode cX4_layBlaming 28 = .ok (.putfield 57, 3) := by decide +kernel
theorem dX4_layBlaming_31 : decode cX4_layBlaming 31 = .ok (.return_, 1) := by decide +kernel
theorem dX4_layBlaming_8 : decode cX4_layBlaming 8 = .ok (.return_, 1) := by decide +kernel
set_option maxHeartbeats 4000000 in
set_option maxRecDepth 100000 in
theorem c92_X4_layBlaming (l : Launch) (G : va_G) (cI cJ cB cZ : ClassId) (a0 a1 a2 a3 a4 a5 a6 a7 a8 a9 a10 a11 a12 a13 a14 a15 a16 a17 a18 : Nat) (b2 : Int32) (v_se_7 : Int32) (v_se_8 : Int32) (v_se_9 : Int32) (v_se_10 : Int32) (v_V_0 : Int32) (v_V_1 : Int32) (v_V_2 : Int32) (v_V_5 : Int32) (hv_0 : 0 ≤ v_se_8.toInt) (hv_1 : v_se_9.toInt ≤ 2147483646) (hv_2 : 0 ≤ v_V_0.toInt) (hv_3 : v_V_0.toInt ≤ 110) (hv_4 : 0 ≤ v_V_1.toInt) (hv_5 : v_V_1.toInt ≤ 110) (hv_6 : 0 ≤ v_V_5.toInt) (hv_7 : v_V_5.toInt ≤ 6) : Con l G (TY cI cJ cB cZ) yX4_layBlaming cX4_layBlaming 4 none ({ frames := 2, cells := 0, slots := 0, locals := 42 } : Room) [.ref a0, .int 6, .int b2] [(a0, .inr (4, [.ref a1, .ref a2, .ref a3, .ref a4, .ref a5, .ref a6, .ref a7, .int v_se_7, .int v_se_8, .int v_se_9, .int v_se_10])), (a1, .inr (7, [.int v_V_0, .int v_V_1, .int v_V_2, .ref a8, .ref a9, .int v_V_5, .ref a10, .ref a11, .ref a12, .ref a13, .ref a14, .ref a15, .ref a16, .ref a17, .ref a18]))] (QV G (TY cI cJ cB cZ) (fun u : Int32 => (True)) (fun u : Int32 => [(a0, .inr (4, [.ref a1, .ref a2, .ref a3, .ref a4, .ref a5, .ref a6, .ref a7, .int v_se_7, .int v_se_8, .int v_se_9, .int u])), (a1, .inr (7, [.int v_V_0, .int v_V_1, .int v_V_2, .ref a8, .ref a9, .int v_V_5, .ref a10, .ref a11, .ref a12, .ref a13, .ref a14, .ref a15, .ref a16, .ref a17, .ref a18]))])) := by
  refine k_met (by decide) (Nat.le_of_ble_eq_true rfl) ?_
  intro p e s m below meth c A ls hC hr hlk hnm hN hZ hK hA hP hD hS hl
  have hl : lv_has ls 4 [(0, .ref a0), (1, .int 6), (2, .int b2)] := hl
  generalize hQm : MQ below _ _ s _ _ A = Qm
  generalize (List.toArray _ : Array Value) = args at hC hQm ⊢
  obtain ⟨hx, hb, hml, hown, hts⟩ := id hC
  obtain ⟨H, hH⟩ : ∃ q, q = s.heap := ⟨_, rfl⟩
  obtain ⟨locs, hlo⟩ : ∃ q : List Loc, q = [] := ⟨_, rfl⟩
  have hP : va_P G cl [(a0, .inr (4, [.ref a1, .ref a2, .ref a3, .ref a4, .ref a5, .ref a6, .ref a7, .int v_se_7, .int v_se_8, .int v_se_9, .int v_se_10])), (a1, .inr (7, [.int v_V_0, .int v_V_1, .int v_V_2, .ref a8, .ref a9, .int v_V_5, .ref a10, .ref a11, .ref a12, .ref a13, .ref a14, .ref a15, .ref a16, .ref a17, .ref a18]))] H := by rw [hH]; exact hP
  have hS : va_S A s.heap H locs := by rw [hH, hlo]; exact hS
  rw [← hlo]
  rw [← hH]
  refine lv_aload_n hx hb dX4_layBlaming_0 rfl (lv_at hl 0 rfl) ?_
  refine lv_iload_n hx hb dX4_layBlaming_1 rfl (lv_at hl 2 rfl) ?_
  refine k_ci (wr := [(a1, .inr (7, [.int v_V_0, .int v_V_1, .int v_V_2, .ref a8, .ref a9, .int v_V_5, .ref a10, .ref a11, .ref a12, .ref a13, .ref a14, .ref a15, .ref a16, .ref a17, .ref a18]))]) (k_rV hC hN hZ hS hA hK hP hD (c91_X4_isBetter l G cI cJ cB cZ a0 a1 a2 a3 a4 a5 a6 a7 b2 v_se_7 v_se_8 v_se_9 v_se_10 hv_0 hv_1) [0] rfl (by decide +kernel) mi_X4_isBetter in_X4_isBetter se_X4_isBetter wm_X4_176 4 0 rfl rfl rfl hl.1 rfl rfl (Nat.le_of_ble_eq_true rfl) ⟨(Nat.le_of_ble_eq_true rfl), (Nat.le_of_ble_eq_true rfl)⟩ dX4_layBlaming_2 ⟨(Nat.le_of_ble_eq_true rfl), (Nat.le_of_ble_eq_true rfl)⟩) hP hD hS hA [0] [1] rfl rfl (by decide +kernel) (by decide +kernel) (fun r1 u1 H locs hp hP hD hS => ?_)
  have hp : (0 ≤ r1.toInt ∧ r1.toInt ≤ 1) := hp
  have hP : va_P G cl [(a1, .inr (7, [.int v_V_0, .int v_V_1, .int v_V_2, .ref a8, .ref a9, .int v_V_5, .ref a10, .ref a11, .ref a12, .ref a13, .ref a14, .ref a15, .ref a16, .ref a17, .ref a18])), (a0, .inr (4, [.ref a1, .ref a2, .ref a3, .ref a4, .ref a5, .ref a6, .ref a7, .int v_se_7, .int v_se_8, .int v_se_9, .int v_se_10]))] H := hP
  have hD : va_D A [(a1, .inr (7, [.int v_V_0, .int v_V_1, .int v_V_2, .ref a8, .ref a9, .int v_V_5, .ref a10, .ref a11, .ref a12, .ref a13, .ref a14, .ref a15, .ref a16, .ref a17, .ref a18])), (a0, .inr (4, [.ref a1, .ref a2, .ref a3, .ref a4, .ref a5, .ref a6, .ref a7, .int v_se_7, .int v_se_8, .int v_se_9, .int v_se_10]))] := hD
  have hq1 := hp
  refine lv_if_ne (tgt := 9) hx hb dX4_layBlaming_5 (by decide) (fun c2 => ?_) (fun c2 => ?_)
  · have dc2 : r1.toInt ≠ 0 := fa_ne c2
    refine lv_iload_n hx hb dX4_layBlaming_9 rfl (lv_at hl 1 rfl) ?_
    refine lv_aload_n hx hb dX4_layBlaming_10 rfl (lv_at hl 0 rfl) ?_
    refine k_get hC hK hP iX4 1 0 wf_X4_12 rfl (by decide) rfl rfl dX4_layBlaming_11 ?_
    refine k_getN hC hN hK hP iX7 0 5 wf_X4_109 rfl (by decide) rfl rfl dX4_layBlaming_14 ?_
    refine lv_icmp_ge (tgt := 26) hx hb dX4_layBlaming_17 (by decide) (fun c3 => ?_) (fun c3 => by have dc3 : 6 < v_V_5.toInt := fa_nle c3; omega)
    have dc3 : v_V_5.toInt ≤ 6 := (fa_le _ _).mp c3
    refine lv_aload_n hx hb dX4_layBlaming_26 rfl (lv_at hl 0 rfl) ?_
    refine lv_iload_n hx hb dX4_layBlaming_27 rfl (lv_at hl 2 rfl) ?_
    refine k_put hC hK hP hD hS iX4 tyX4_ok nmX4 1 10 wf_X4_57 rfl (by decide) rfl rfl rfl rfl (Nat.le_of_ble_eq_true rfl) dX4_layBlaming_28 (fun H locs hP hD hS => ?_)
    have hP : va_P G cl [(a1, .inr (7, [.int v_V_0, .int v_V_1, .int v_V_2, .ref a8, .ref a9, .int v_V_5, .ref a10, .ref a11, .ref a12, .ref a13, .ref a14, .ref a15, .ref a16, .ref a17, .ref a18])), (a0, .inr (4, [.ref a1, .ref a2, .ref a3, .ref a4, .ref a5, .ref a6, .ref a7, .int v_se_7, .int v_se_8, .int v_se_9, .int b2]))] H := hP
    have hD : va_D A [(a1, .inr (7, [.int v_V_0, .int v_V_1, .int v_V_2, .ref a8, .ref a9, .int v_V_5, .ref a10, .ref a11, .ref a12, .ref a13, .ref a14, .ref a15, .ref a16, .ref a17, .ref a18])), (a0, .inr (4, [.ref a1, .ref a2, .ref a3, .ref a4, .ref a5, .ref a6, .ref a7, .int v_se_7, .int v_se_8, .int v_se_9, .int b2]))] := hD
    rw [← hQm]
    exact k_vret hC hr hlk hK hP hD hS b2 [1, 0] rfl (by decide +kernel) trivial (Nat.le_of_ble_eq_true rfl) (Nat.le_of_ble_eq_true rfl) dX4_layBlaming_31
  · have dc2 : r1.toInt = 0 := (fa_eq _ _).mp c2
    rw [← hQm]
    exact k_vret hC hr hlk hK hP hD hS v_se_10 [1, 0] rfl (by decide +kernel) trivial (Nat.le_of_ble_eq_true rfl) (Nat.le_of_ble_eq_true rfl) dX4_layBlaming_8
theorem dX4_layBlaming_20 : decode cX4_layBlaming 20 = .ok (.iload_n 1, 1) := by decide +kernel
theorem dX4_layBlaming_21 : decode cX4_layBlaming 21 = .ok (.bipush 6, 2) := by decide +kernel
theorem dX4_layBlaming_23 : decode cX4_layBlaming 23 = .ok (.if_icmp .lt 9, 3) := by decide +kernel
theorem dX4_layBlaming_32 : decode cX4_layBlaming 32 = .ok (.aload_n 0, 1) := by decide +kernel
theorem dX4_layBlaming_33 : decode cX4_layBlaming 33 = .ok (.getfield 41, 3) := by decide +kernel
theorem dX4_layBlaming_36 : decode cX4_layBlaming 36 = .ok (.iload_n 1, 1) := by decide +kernel
theorem dX4_layBlaming_37 : decode cX4_layBlaming 37 = .ok (.iaload, 1) := by decide +kernel
theorem dX4_layBlaming_38 : decode cX4_layBlaming 38 = .ok (.istore_n 3, 1) := by decide +kernel
theorem dX4_layBlaming_39 : decode cX4_layBlaming 39 = .ok (.iload_n 3, 1) := by decide +kernel
theorem dX4_layBlaming_40 : decode cX4_layBlaming 40 = .ok (.aload_n 0, 1) := by decide +kernel
theorem dX4_layBlaming_41 : decode cX4_layBlaming 41 = .ok (.getfield 44, 3) := by decide +kernel
theorem dX4_layBlaming_44 : decode cX4_layBlaming 44 = .ok (.iload_n 1, 1) := by decide +kernel
theorem dX4_layBlaming_45 : decode cX4_layBlaming 45 = .ok (.iaload, 1) := by decide +kernel
theorem dX4_layBlaming_46 : decode cX4_layBlaming 46 = .ok (.if_icmp .gt 30, 3) := by decide +kernel
theorem dX4_layBlaming_76 : decode cX4_layBlaming 76 = .ok (.return_, 1) := by decide +kernel
theorem dX4_layBlaming_49 : decode cX4_layBlaming 49 = .ok (.aload_n 0, 1) := by decide +kernel
theorem dX4_layBlaming_50 : decode cX4_layBlaming 50 = .ok (.getfield 38, 3) := by decide +kernel
theorem dX4_layBlaming_53 : decode cX4_layBlaming 53 = .ok (.iload_n 1, 1) := by decide +kernel
theorem dX4_layBlaming_54 : decode cX4_layBlaming 54 = .ok (.iload_n 3, 1) := by decide +kernel
theorem dX4_layBlaming_55 : decode cX4_layBlaming 55 = .ok (.iastore, 1) := by decide +kernel
theorem dX4_layBlaming_56 : decode cX4_layBlaming 56 = .ok (.aload_n 0, 1) := by decide +kernel
theorem dX4_layBlaming_57 : decode cX4_layBlaming 57 = .ok (.iload_n 1, 1) := by decide +kernel
theorem dX4_layBlaming_58 : decode cX4_layBlaming 58 = .ok (.iconst 1, 1) := by decide +kernel
theorem dX4_layBlaming_59 : decode cX4_layBlaming 59 = .ok (.iadd, 1) := by decide +kernel
theorem dX4_layBlaming_60 : decode cX4_layBlaming 60 = .ok (.iload_n 2, 1) := by decide +kernel
theorem dX4_layBlaming_61 : decode cX4_layBlaming 61 = .ok (.aload_n 0, 1) := by decide +kernel
theorem dX4_layBlaming_62 : decode cX4_layBlaming 62 = .ok (.iload_n 1, 1) := by decide +kernel
theorem dX4_layBlaming_63 : decode cX4_layBlaming 63 = .ok (.invokevirtual 180, 3) := by decide +kernel
set_option maxRecDepth 100000 in
theorem wm_X4_180 : Cond.methodLink RX4 180 yX4_blameAt ∈ gw := gm (List.mem_of_getElem? (i := 861) (by decide +kernel)) rfl
set_option maxRecDepth 100000 in
theorem mi_X4_blameAt : MI yX4_blameAt cX4_blameAt 4 (some .int) 1 := ⟨gm (List.mem_of_getElem? (i := 864) rfl) rfl, gm (List.mem_of_getElem? (i := 120) (by decide +kernel)) rfl, by decide, by decide, by decide +kernel⟩
set_option maxRecDepth 100000 in
theorem in_X4_blameAt : Cond.instanceMethod yX4_blameAt ∈ gw := gm (List.mem_of_getElem? (i := 863) (by decide +kernel)) rfl
set_option maxRecDepth 100000 in
theorem se_X4_blameAt : Cond.selects yX4_blameAt.cls yX4_blameAt yX4_blameAt ∈ gw := gm (List.mem_of_getElem? (i := 28) (by decide +kernel)) rfl
theorem dX4_layBlaming_66 : decode cX4_layBlaming 66 = .ok (.ior, 1) := by decide +kernel
theorem dX4_layBlaming_67 : decode cX4_layBlaming 67 = .ok (.invokevirtual 97, 3) := by decide +kernel
set_option maxRecDepth 100000 in
theorem wm_X4_97 : Cond.methodLink RX4 97 yX4_layBlaming ∈ gw := gm (List.mem_of_getElem? (i := 847) (by decide +kernel)) rfl
set_option maxRecDepth 100000 in
theorem mi_X4_layBlaming : MI yX4_layBlaming cX4_layBlaming 4 none 2 := ⟨gm (List.mem_of_getElem? (i := 850) rfl) rfl, gm (List.mem_of_getElem? (i := 120) (by decide +kernel)) rfl, by decide, by decide, by decide +kernel⟩
set_option maxRecDepth 100000 in
theorem in_X4_layBlaming : Cond.instanceMethod yX4_layBlaming ∈ gw := gm (List.mem_of_getElem? (i := 849) (by decide +kernel)) rfl
set_option maxRecDepth 100000 in
theorem se_X4_layBlaming : Cond.selects yX4_layBlaming.cls yX4_layBlaming yX4_layBlaming ∈ gw := gm (List.mem_of_getElem? (i := 26) (by decide +kernel)) rfl
theorem dX4_layBlaming_70 : decode cX4_layBlaming 70 = .ok (.iinc 3 1, 3) := by decide +kernel
theorem dX4_layBlaming_73 : decode cX4_layBlaming 73 = .ok (.goto (-34), 3) := by decide +kernel
set_option maxHeartbeats 4000000 in
set_option maxRecDepth 100000 in
theorem c93_X4_layBlaming (l : Launch) (G : va_G) (cI cJ cB cZ : ClassId) (a0 a1 a2 a3 a4 a5 a6 a7 a8 a9 a10 a11 a12 a13 a14 a15 a16 a17 a18 a19 a20 a21 a22 a23 a24 a25 : Nat) (b2 : Int32) (v_se_7 : Int32) (v_se_8 : Int32) (v_se_9 : Int32) (v_se_10 : Int32) (v_V_0 : Int32) (v_V_1 : Int32) (v_V_2 : Int32) (v_V_5 : Int32) (v_cn_7 : Int32) (g_se_least : Nat → Int32) (g_se_most : Nat → Int32) (g_se_weight : Nat → Int32) (g_se_firstOf : Nat → Int32) (g_cn_left : Nat → Int32) (g_cn_right : Nat → Int32) (g_cn_year : Nat → Int32) (g_V_worn : Nat → Int32) (g_cn_how : Nat → Int32) (g_cn_trader : Nat → Int32) (hv_0 : 0 ≤ v_se_8.toInt) (hv_1 : v_se_9.toInt ≤ 2147483646) (hv_2 : 0 ≤ v_V_0.toInt) (hv_3 : v_V_0.toInt ≤ 110) (hv_4 : 0 ≤ v_V_1.toInt) (hv_5 : v_V_1.toInt ≤ 110) (hv_6 : 0 ≤ v_V_5.toInt) (hv_7 : v_V_5.toInt ≤ 6) (hv_8 : 0 ≤ v_cn_7.toInt) (hv_9 : v_cn_7.toInt ≤ 46) (hT_g_se_least : TA 0 2147483647 g_se_least) (hT_g_se_most : TA (-2147483648) 2147483646 g_se_most) (hT_g_se_firstOf : TA 0 46 g_se_firstOf) : Con l G (TY cI cJ cB cZ) yX4_layBlaming cX4_layBlaming 4 none ({ frames := 4, cells := 0, slots := 0, locals := 92 } : Room) [.ref a0, .int 5, .int b2] [(a0, .inr (4, [.ref a1, .ref a2, .ref a3, .ref a4, .ref a5, .ref a6, .ref a7, .int v_se_7, .int v_se_8, .int v_se_9, .int v_se_10])), (a1, .inr (7, [.int v_V_0, .int v_V_1, .int v_V_2, .ref a8, .ref a9, .int v_V_5, .ref a10, .ref a11, .ref a12, .ref a13, .ref a14, .ref a15, .ref a16, .ref a17, .ref a18])), (a6, .inl (cI, 6, .inl g_se_least)), (a7, .inl (cI, 6, .inl g_se_most)), (a5, .inl (cI, 6, .inl g_se_weight)), (a4, .inl (cI, 7, .inl g_se_firstOf)), (a3, .inr (8, [.ref a19, .ref a20, .ref a21, .ref a22, .ref a23, .ref a24, .ref a25, .int v_cn_7])), (a19, .inl (cI, 46, .inl g_cn_left)), (a20, .inl (cI, 46, .inl g_cn_right)), (a21, .inl (cI, 46, .inl g_cn_year)), (a14, .inl (cI, 6, .inl g_V_worn)), (a23, .inl (cI, 46, .inl g_cn_how)), (a22, .inl (cI, 46, .inl g_cn_trader))] (QV G (TY cI cJ cB cZ) (fun u : Int32 × (Nat → Int32) => (True)) (fun u : Int32 × (Nat → Int32) => [(a0, .inr (4, [.ref a1, .ref a2, .ref a3, .ref a4, .ref a5, .ref a6, .ref a7, .int v_se_7, .int v_se_8, .int v_se_9, .int u.1])), (a1, .inr (7, [.int v_V_0, .int v_V_1, .int v_V_2, .ref a8, .ref a9, .int v_V_5, .ref a10, .ref a11, .ref a12, .ref a13, .ref a14, .ref a15, .ref a16, .ref a17, .ref a18])), (a6, .inl (cI, 6, .inl g_se_least)), (a7, .inl (cI, 6, .inl g_se_most)), (a5, .inl (cI, 6, .inl u.2)), (a4, .inl (cI, 7, .inl g_se_firstOf)), (a3, .inr (8, [.ref a19, .ref a20, .ref a21, .ref a22, .ref a23, .ref a24, .ref a25, .int v_cn_7])), (a19, .inl (cI, 46, .inl g_cn_left)), (a20, .inl (cI, 46, .inl g_cn_right)), (a21, .inl (cI, 46, .inl g_cn_year)), (a14, .inl (cI, 6, .inl g_V_worn)), (a23, .inl (cI, 46, .inl g_cn_how)), (a22, .inl (cI, 46, .inl g_cn_trader))])) := by
  refine k_met (by decide) (Nat.le_of_ble_eq_true rfl) ?_
  intro p e s m below meth c A ls hC hr hlk hnm hN hZ hK hA hP hD hS hl
  have hl : lv_has ls 4 [(0, .ref a0), (1, .int 5), (2, .int b2)] := hl
  generalize hQm : MQ below _ _ s _ _ A = Qm
  generalize (List.toArray _ : Array Value) = args at hC hQm ⊢
  obtain ⟨hx, hb, hml, hown, hts⟩ := id hC
  obtain ⟨H, hH⟩ : ∃ q, q = s.heap := ⟨_, rfl⟩
  obtain ⟨locs, hlo⟩ : ∃ q : List Loc, q = [] := ⟨_, rfl⟩
  have hP : va_P G cl [(a0, .inr (4, [.ref a1, .ref a2, .ref a3, .ref a4, .ref a5, .ref a6, .ref a7, .int v_se_7, .int v_se_8, .int v_se_9, .int v_se_10])), (a1, .inr (7, [.int v_V_0, .int v_V_1, .int v_V_2, .ref a8, .ref a9, .int v_V_5, .ref a10, .ref a11, .ref a12, .ref a13, .ref a14, .ref a15, .ref a16, .ref a17, .ref a18])), (a6, .inl (cI, 6, .inl g_se_least)), (a7, .inl (cI, 6, .inl g_se_most)), (a5, .inl (cI, 6, .inl g_se_weight)), (a4, .inl (cI, 7, .inl g_se_firstOf)), (a3, .inr (8, [.ref a19, .ref a20, .ref a21, .ref a22, .ref a23, .ref a24, .ref a25, .int v_cn_7])), (a19, .inl (cI, 46, .inl g_cn_left)), (a20, .inl (cI, 46, .inl g_cn_right)), (a21, .inl (cI, 46, .inl g_cn_year)), (a14, .inl (cI, 6, .inl g_V_worn)), (a23, .inl (cI, 46, .inl g_cn_how)), (a22, .inl (cI, 46, .inl g_cn_trader))] H := by rw [hH]; exact hP
  have hS : va_S A s.heap H locs := by rw [hH, hlo]; exact hS
  rw [← hlo]
  rw [← hH]
  refine lv_aload_n hx hb dX4_layBlaming_0 rfl (lv_at hl 0 rfl) ?_
  refine lv_iload_n hx hb dX4_layBlaming_1 rfl (lv_at hl 2 rfl) ?_
  refine k_ci (wr := [(a1, .inr (7, [.int v_V_0, .int v_V_1, .int v_V_2, .ref a8, .ref a9, .int v_V_5, .ref a10, .ref a11, .ref a12, .ref a13, .ref a14, .ref a15, .ref a16, .ref a17, .ref a18])), (a6, .inl (cI, 6, .inl g_se_least)), (a7, .inl (cI, 6, .inl g_se_most)), (a5, .inl (cI, 6, .inl g_se_weight)), (a4, .inl (cI, 7, .inl g_se_firstOf)), (a3, .inr (8, [.ref a19, .ref a20, .ref a21, .ref a22, .ref a23, .ref a24, .ref a25, .int v_cn_7])), (a19, .inl (cI, 46, .inl g_cn_left)), (a20, .inl (cI, 46, .inl g_cn_right)), (a21, .inl (cI, 46, .inl g_cn_year)), (a14, .inl (cI, 6, .inl g_V_worn)), (a23, .inl (cI, 46, .inl g_cn_how)), (a22, .inl (cI, 46, .inl g_cn_trader))]) (k_rV hC hN hZ hS hA hK hP hD (c91_X4_isBetter l G cI cJ cB cZ a0 a1 a2 a3 a4 a5 a6 a7 b2 v_se_7 v_se_8 v_se_9 v_se_10 hv_0 hv_1) [0] rfl (by decide +kernel) mi_X4_isBetter in_X4_isBetter se_X4_isBetter wm_X4_176 4 0 rfl rfl rfl hl.1 rfl rfl (Nat.le_of_ble_eq_true rfl) ⟨(Nat.le_of_ble_eq_true rfl), (Nat.le_of_ble_eq_true rfl)⟩ dX4_layBlaming_2 ⟨(Nat.le_of_ble_eq_true rfl), (Nat.le_of_ble_eq_true rfl)⟩) hP hD hS hA [0] [1, 2, 3, 4, 5, 6, 7, 8, 9, 10, 11, 12] rfl rfl (by decide +kernel) (by decide +kernel) (fun r1 u1 H locs hp hP hD hS => ?_)
  have hp : (0 ≤ r1.toInt ∧ r1.toInt ≤ 1) := hp
  have hP : va_P G cl [(a1, .inr (7, [.int v_V_0, .int v_V_1, .int v_V_2, .ref a8, .ref a9, .int v_V_5, .ref a10, .ref a11, .ref a12, .ref a13, .ref a14, .ref a15, .ref a16, .ref a17, .ref a18])), (a6, .inl (cI, 6, .inl g_se_least)), (a7, .inl (cI, 6, .inl g_se_most)), (a5, .inl (cI, 6, .inl g_se_weight)), (a4, .inl (cI, 7, .inl g_se_firstOf)), (a3, .inr (8, [.ref a19, .ref a20, .ref a21, .ref a22, .ref a23, .ref a24, .ref a25, .int v_cn_7])), (a19, .inl (cI, 46, .inl g_cn_left)), (a20, .inl (cI, 46, .inl g_cn_right)), (a21, .inl (cI, 46, .inl g_cn_year)), (a14, .inl (cI, 6, .inl g_V_worn)), (a23, .inl (cI, 46, .inl g_cn_how)), (a22, .inl (cI, 46, .inl g_cn_trader)), (a0, .inr (4, [.ref a1, .ref a2, .ref a3, .ref a4, .ref a5, .ref a6, .ref a7, .int v_se_7, .int v_se_8, .int v_se_9, .int v_se_10]))] H := hP
  have hD : va_D A [(a1, .inr (7, [.int v_V_0, .int v_V_1, .int v_V_2, .ref a8, .ref a9, .int v_V_5, .ref a10, .ref a11, .ref a12, .ref a13, .ref a14, .ref a15, .ref a16, .ref a17, .ref a18])), (a6, .inl (cI, 6, .inl g_se_least)), (a7, .inl (cI, 6, .inl g_se_most)), (a5, .inl (cI, 6, .inl g_se_weight)), (a4, .inl (cI, 7, .inl g_se_firstOf)), (a3, .inr (8, [.ref a19, .ref a20, .ref a21, .ref a22, .ref a23, .ref a24, .ref a25, .int v_cn_7])), (a19, .inl (cI, 46, .inl g_cn_left)), (a20, .inl (cI, 46, .inl g_cn_right)), (a21, .inl (cI, 46, .inl g_cn_year)), (a14, .inl (cI, 6, .inl g_V_worn)), (a23, .inl (cI, 46, .inl g_cn_how)), (a22, .inl (cI, 46, .inl g_cn_trader)), (a0, .inr (4, [.ref a1, .ref a2, .ref a3, .ref a4, .ref a5, .ref a6, .ref a7, .int v_se_7, .int v_se_8, .int v_se_9, .int v_se_10]))] := hD
  have hq1 := hp
  refine lv_if_ne (tgt := 9) hx hb dX4_layBlaming_5 (by decide) (fun c2 => ?_) (fun c2 => ?_)
  · have dc2 : r1.toInt ≠ 0 := fa_ne c2
    refine lv_iload_n hx hb dX4_layBlaming_9 rfl (lv_at hl 1 rfl) ?_
    refine lv_aload_n hx hb dX4_layBlaming_10 rfl (lv_at hl 0 rfl) ?_
    refine k_get hC hK hP iX4 12 0 wf_X4_12 rfl (by decide) rfl rfl dX4_layBlaming_11 ?_
    refine k_getN hC hN hK hP iX7 0 5 wf_X4_109 rfl (by decide) rfl rfl dX4_layBlaming_14 ?_
    refine lv_icmp_ge (tgt := 26) hx hb dX4_layBlaming_17 (by decide) (fun c3 => ?_) (fun c3 => ?_)
    · have dc3 : v_V_5.toInt ≤ 5 := (fa_le _ _).mp c3
      refine lv_aload_n hx hb dX4_layBlaming_26 rfl (lv_at hl 0 rfl) ?_
      refine lv_iload_n hx hb dX4_layBlaming_27 rfl (lv_at hl 2 rfl) ?_
      refine k_put hC hK hP hD hS iX4 tyX4_ok nmX4 12 10 wf_X4_57 rfl (by decide) rfl rfl rfl rfl (Nat.le_of_ble_eq_true rfl) dX4_layBlaming_28 (fun H locs hP hD hS => ?_)
      have hP : va_P G cl [(a1, .inr (7, [.int v_V_0, .int v_V_1, .int v_V_2, .ref a8, .ref a9, .int v_V_5, .ref a10, .ref a11, .ref a12, .ref a13, .ref a14, .ref a15, .ref a16, .ref a17, .ref a18])), (a6, .inl (cI, 6, .inl g_se_least)), (a7, .inl (cI, 6, .inl g_se_most)), (a5, .inl (cI, 6, .inl g_se_weight)), (a4, .inl (cI, 7, .inl g_se_firstOf)), (a3, .inr (8, [.ref a19, .ref a20, .ref a21, .ref a22, .ref a23, .ref a24, .ref a25, .int v_cn_7])), (a19, .inl (cI, 46, .inl g_cn_left)), (a20, .inl (cI, 46, .inl g_cn_right)), (a21, .inl (cI, 46, .inl g_cn_year)), (a14, .inl (cI, 6, .inl g_V_worn)), (a23, .inl (cI, 46, .inl g_cn_how)), (a22, .inl (cI, 46, .inl g_cn_trader)), (a0, .inr (4, [.ref a1, .ref a2, .ref a3, .ref a4, .ref a5, .ref a6, .ref a7, .int v_se_7, .int v_se_8, .int v_se_9, .int b2]))] H := hP
      have hD : va_D A [(a1, .inr (7, [.int v_V_0, .int v_V_1, .int v_V_2, .ref a8, .ref a9, .int v_V_5, .ref a10, .ref a11, .ref a12, .ref a13, .ref a14, .ref a15, .ref a16, .ref a17, .ref a18])), (a6, .inl (cI, 6, .inl g_se_least)), (a7, .inl (cI, 6, .inl g_se_most)), (a5, .inl (cI, 6, .inl g_se_weight)), (a4, .inl (cI, 7, .inl g_se_firstOf)), (a3, .inr (8, [.ref a19, .ref a20, .ref a21, .ref a22, .ref a23, .ref a24, .ref a25, .int v_cn_7])), (a19, .inl (cI, 46, .inl g_cn_left)), (a20, .inl (cI, 46, .inl g_cn_right)), (a21, .inl (cI, 46, .inl g_cn_year)), (a14, .inl (cI, 6, .inl g_V_worn)), (a23, .inl (cI, 46, .inl g_cn_how)), (a22, .inl (cI, 46, .inl g_cn_trader)), (a0, .inr (4, [.ref a1, .ref a2, .ref a3, .ref a4, .ref a5, .ref a6, .ref a7, .int v_se_7, .int v_se_8, .int v_se_9, .int b2]))] := hD
      rw [← hQm]
      exact k_vret hC hr hlk hK hP hD hS (b2, g_se_weight) [12, 0, 1, 2, 3, 4, 5, 6, 7, 8, 9, 10, 11] rfl (by decide +kernel) trivial (Nat.le_of_ble_eq_true rfl) (Nat.le_of_ble_eq_true rfl) dX4_layBlaming_31
    · have dc3 : 5 < v_V_5.toInt := fa_nle c3
      refine lv_iload_n hx hb dX4_layBlaming_20 rfl (lv_at hl 1 rfl) ?_
      refine lv_bipush (v := 6) hx hb dX4_layBlaming_21 (by decide) ?_
      refine lv_icmp_lt (tgt := 32) hx hb dX4_layBlaming_23 (by decide) (fun _ => ?_) (fun c_ => absurd (by decide +kernel) c_)
      refine lv_aload_n hx hb dX4_layBlaming_32 rfl (lv_at hl 0 rfl) ?_
      refine k_get hC hK hP iX4 12 5 wf_X4_41 rfl (by decide) rfl rfl dX4_layBlaming_33 ?_
      refine lv_iload_n hx hb dX4_layBlaming_36 rfl (lv_at hl 1 rfl) ?_
      refine t_iald hC hK hP 1 rfl (by decide) (by decide) hT_g_se_least dX4_layBlaming_37 (fun z4 tz4 => ?_)
      refine lv_istore_n (lv' := [(3, .int z4), (0, .ref a0), (1, .int 5), (2, .int b2)]) hx hb dX4_layBlaming_38 rfl hl (by decide) rfl (fun ls hl => ?_)
      have L_39 : ∀ (n : Nat) (x5 : Int32) (f6 : Nat → Int32) (h7 : Int32) (H : Heap) (locs : List Loc) (ls : Array Slot), (0 ≤ x5.toInt) → 2147483647 - x5.toInt < (n : Int) → va_P G cl [(a1, .inr (7, [.int v_V_0, .int v_V_1, .int v_V_2, .ref a8, .ref a9, .int v_V_5, .ref a10, .ref a11, .ref a12, .ref a13, .ref a14, .ref a15, .ref a16, .ref a17, .ref a18])), (a6, .inl (cI, 6, .inl g_se_least)), (a7, .inl (cI, 6, .inl g_se_most)), (a5, .inl (cI, 6, .inl f6)), (a4, .inl (cI, 7, .inl g_se_firstOf)), (a3, .inr (8, [.ref a19, .ref a20, .ref a21, .ref a22, .ref a23, .ref a24, .ref a25, .int v_cn_7])), (a19, .inl (cI, 46, .inl g_cn_left)), (a20, .inl (cI, 46, .inl g_cn_right)), (a21, .inl (cI, 46, .inl g_cn_year)), (a14, .inl (cI, 6, .inl g_V_worn)), (a23, .inl (cI, 46, .inl g_cn_how)), (a22, .inl (cI, 46, .inl g_cn_trader)), (a0, .inr (4, [.ref a1, .ref a2, .ref a3, .ref a4, .ref a5, .ref a6, .ref a7, .int v_se_7, .int v_se_8, .int v_se_9, .int h7]))] H → va_D A [(a1, .inr (7, [.int v_V_0, .int v_V_1, .int v_V_2, .ref a8, .ref a9, .int v_V_5, .ref a10, .ref a11, .ref a12, .ref a13, .ref a14, .ref a15, .ref a16, .ref a17, .ref a18])), (a6, .inl (cI, 6, .inl g_se_least)), (a7, .inl (cI, 6, .inl g_se_most)), (a5, .inl (cI, 6, .inl f6)), (a4, .inl (cI, 7, .inl g_se_firstOf)), (a3, .inr (8, [.ref a19, .ref a20, .ref a21, .ref a22, .ref a23, .ref a24, .ref a25, .int v_cn_7])), (a19, .inl (cI, 46, .inl g_cn_left)), (a20, .inl (cI, 46, .inl g_cn_right)), (a21, .inl (cI, 46, .inl g_cn_year)), (a14, .inl (cI, 6, .inl g_V_worn)), (a23, .inl (cI, 46, .inl g_cn_how)), (a22, .inl (cI, 46, .inl g_cn_trader)), (a0, .inr (4, [.ref a1, .ref a2, .ref a3, .ref a4, .ref a5, .ref a6, .ref a7, .int v_se_7, .int v_se_8, .int v_se_9, .int h7]))] → va_S A s.heap H locs → lv_has ls 4 [(0, .ref a0), (1, .int 5), (2, .int b2), (3, .int x5)] → W p l e ({ frames := 4, cells := 0, slots := 0, locals := 92 } : Room) s m args below meth c H locs 0 0 Qm (F0 m 39 ls []) := by
        intro n
        induction n with
        | zero => intro x5 f6 h7 H locs ls hv hm; have p_ := i_lo x5; have q_ := i_hi x5; omega
        | succ n ih =>
          intro x5 f6 h7 H locs ls hv hm hP hD hS hl
          have p_ := i_lo x5; have q_ := i_hi x5
          refine lv_iload_n hx hb dX4_layBlaming_39 rfl (lv_at hl 3 rfl) ?_
          refine lv_aload_n hx hb dX4_layBlaming_40 rfl (lv_at hl 0 rfl) ?_
          refine k_get hC hK hP iX4 12 6 wf_X4_44 rfl (by decide) rfl rfl dX4_layBlaming_41 ?_
          refine lv_iload_n hx hb dX4_layBlaming_44 rfl (lv_at hl 1 rfl) ?_
          refine t_iald hC hK hP 2 rfl (by decide) (by decide) hT_g_se_most dX4_layBlaming_45 (fun z8 tz8 => ?_)
          refine lv_icmp_gt (tgt := 76) hx hb dX4_layBlaming_46 (by decide) (fun c9 => ?_) (fun c9 => ?_)
          · have dc9 : z8.toInt < x5.toInt := (fa_lt _ _).mp c9; have lbc9_0 := i_lo z8; have ubc9_1 := i_hi x5
            rw [← hQm]
            exact k_vret hC hr hlk hK hP hD hS (h7, f6) [12, 0, 1, 2, 3, 4, 5, 6, 7, 8, 9, 10, 11] rfl (by decide +kernel) trivial (Nat.le_of_ble_eq_true rfl) (Nat.le_of_ble_eq_true rfl) dX4_layBlaming_76
          · have dc9 : x5.toInt ≤ z8.toInt := fa_nlt c9; have lbc9_0 := i_lo z8; have ubc9_1 := i_hi x5
            refine lv_aload_n hx hb dX4_layBlaming_49 rfl (lv_at hl 0 rfl) ?_
            refine k_get hC hK hP iX4 12 4 wf_X4_38 rfl (by decide) rfl rfl dX4_layBlaming_50 ?_
            refine lv_iload_n hx hb dX4_layBlaming_53 rfl (lv_at hl 1 rfl) ?_
            refine lv_iload_n hx hb dX4_layBlaming_54 rfl (lv_at hl 3 rfl) ?_
            refine t_iast hC hK hP hD hS 3 rfl (by decide) (by decide) (TA.all _) ⟨i_lo _, i_hi _⟩ dX4_layBlaming_55 (fun f10 H locs hT_f10 hP hD hS => ?_)
            have hP : va_P G cl [(a1, .inr (7, [.int v_V_0, .int v_V_1, .int v_V_2, .ref a8, .ref a9, .int v_V_5, .ref a10, .ref a11, .ref a12, .ref a13, .ref a14, .ref a15, .ref a16, .ref a17, .ref a18])), (a6, .inl (cI, 6, .inl g_se_least)), (a7, .inl (cI, 6, .inl g_se_most)), (a5, .inl (cI, 6, .inl f10)), (a4, .inl (cI, 7, .inl g_se_firstOf)), (a3, .inr (8, [.ref a19, .ref a20, .ref a21, .ref a22, .ref a23, .ref a24, .ref a25, .int v_cn_7])), (a19, .inl (cI, 46, .inl g_cn_left)), (a20, .inl (cI, 46, .inl g_cn_right)), (a21, .inl (cI, 46, .inl g_cn_year)), (a14, .inl (cI, 6, .inl g_V_worn)), (a23, .inl (cI, 46, .inl g_cn_how)), (a22, .inl (cI, 46, .inl g_cn_trader)), (a0, .inr (4, [.ref a1, .ref a2, .ref a3, .ref a4, .ref a5, .ref a6, .ref a7, .int v_se_7, .int v_se_8, .int v_se_9, .int h7]))] H := hP
            have hD : va_D A [(a1, .inr (7, [.int v_V_0, .int v_V_1, .int v_V_2, .ref a8, .ref a9, .int v_V_5, .ref a10, .ref a11, .ref a12, .ref a13, .ref a14, .ref a15, .ref a16, .ref a17, .ref a18])), (a6, .inl (cI, 6, .inl g_se_least)), (a7, .inl (cI, 6, .inl g_se_most)), (a5, .inl (cI, 6, .inl f10)), (a4, .inl (cI, 7, .inl g_se_firstOf)), (a3, .inr (8, [.ref a19, .ref a20, .ref a21, .ref a22, .ref a23, .ref a24, .ref a25, .int v_cn_7])), (a19, .inl (cI, 46, .inl g_cn_left)), (a20, .inl (cI, 46, .inl g_cn_right)), (a21, .inl (cI, 46, .inl g_cn_year)), (a14, .inl (cI, 6, .inl g_V_worn)), (a23, .inl (cI, 46, .inl g_cn_how)), (a22, .inl (cI, 46, .inl g_cn_trader)), (a0, .inr (4, [.ref a1, .ref a2, .ref a3, .ref a4, .ref a5, .ref a6, .ref a7, .int v_se_7, .int v_se_8, .int v_se_9, .int h7]))] := hD
            refine lv_aload_n hx hb dX4_layBlaming_56 rfl (lv_at hl 0 rfl) ?_
            refine lv_iload_n hx hb dX4_layBlaming_57 rfl (lv_at hl 1 rfl) ?_
            refine lv_iconst (v := 1) hx hb dX4_layBlaming_58 (by decide) ?_
            refine lv_iadd hx hb dX4_layBlaming_59 ?_
            refine k_i 6 (by decide +kernel) ?_
            refine lv_iload_n hx hb dX4_layBlaming_60 rfl (lv_at hl 2 rfl) ?_
            refine lv_aload_n hx hb dX4_layBlaming_61 rfl (lv_at hl 0 rfl) ?_
            refine lv_iload_n hx hb dX4_layBlaming_62 rfl (lv_at hl 1 rfl) ?_
            have l_l13 : (5 : Int32).toInt = 5 := rfl
            refine k_ci (wr := [(a6, .inl (cI, 6, .inl g_se_least)), (a7, .inl (cI, 6, .inl g_se_most))]) (k_rV hC hN hZ hS hA hK hP hD (c89_X4_blameAt l G cI cJ cB cZ a0 a1 a2 a3 a4 a5 a6 a7 a19 a20 a21 a22 a23 a24 a25 a8 a9 a10 a11 a12 a13 a14 a15 a16 a17 a18 5 v_se_7 v_se_8 v_se_9 h7 v_cn_7 v_V_0 v_V_1 v_V_2 v_V_5 g_se_firstOf g_cn_left g_cn_right g_cn_year f10 g_V_worn g_cn_how g_cn_trader (by omega) (by omega) hv_0 hv_1 hv_8 hv_9 hv_2 hv_3 hv_4 hv_5 hv_6 hv_7 hT_g_se_firstOf) [12, 4, 5, 6, 7, 8, 0, 3, 9, 10, 11] rfl (by decide +kernel) mi_X4_blameAt in_X4_blameAt se_X4_blameAt wm_X4_180 4 12 rfl rfl rfl hl.1 rfl rfl (Nat.le_of_ble_eq_true rfl) ⟨(Nat.le_of_ble_eq_true rfl), (Nat.le_of_ble_eq_true rfl)⟩ dX4_layBlaming_63 ⟨(Nat.le_of_ble_eq_true rfl), (Nat.le_of_ble_eq_true rfl)⟩) hP hD hS hA [12, 4, 5, 6, 7, 8, 0, 3, 9, 10, 11] [1, 2] rfl rfl (by decide +kernel) (by decide +kernel) (fun r12 u12 H locs hp hP hD hS => ?_)
            have hp : (True) := hp
            have hP : va_P G cl [(a6, .inl (cI, 6, .inl g_se_least)), (a7, .inl (cI, 6, .inl g_se_most)), (a0, .inr (4, [.ref a1, .ref a2, .ref a3, .ref a4, .ref a5, .ref a6, .ref a7, .int v_se_7, .int v_se_8, .int v_se_9, .int h7])), (a4, .inl (cI, 7, .inl g_se_firstOf)), (a3, .inr (8, [.ref a19, .ref a20, .ref a21, .ref a22, .ref a23, .ref a24, .ref a25, .int v_cn_7])), (a19, .inl (cI, 46, .inl g_cn_left)), (a20, .inl (cI, 46, .inl g_cn_right)), (a21, .inl (cI, 46, .inl g_cn_year)), (a1, .inr (7, [.int v_V_0, .int v_V_1, .int v_V_2, .ref a8, .ref a9, .int v_V_5, .ref a10, .ref a11, .ref a12, .ref a13, .ref a14, .ref a15, .ref a16, .ref a17, .ref a18])), (a5, .inl (cI, 6, .inl f10)), (a14, .inl (cI, 6, .inl g_V_worn)), (a23, .inl (cI, 46, .inl g_cn_how)), (a22, .inl (cI, 46, .inl g_cn_trader))] H := hP
            have hD : va_D A [(a6, .inl (cI, 6, .inl g_se_least)), (a7, .inl (cI, 6, .inl g_se_most)), (a0, .inr (4, [.ref a1, .ref a2, .ref a3, .ref a4, .ref a5, .ref a6, .ref a7, .int v_se_7, .int v_se_8, .int v_se_9, .int h7])), (a4, .inl (cI, 7, .inl g_se_firstOf)), (a3, .inr (8, [.ref a19, .ref a20, .ref a21, .ref a22, .ref a23, .ref a24, .ref a25, .int v_cn_7])), (a19, .inl (cI, 46, .inl g_cn_left)), (a20, .inl (cI, 46, .inl g_cn_right)), (a21, .inl (cI, 46, .inl g_cn_year)), (a1, .inr (7, [.int v_V_0, .int v_V_1, .int v_V_2, .ref a8, .ref a9, .int v_V_5, .ref a10, .ref a11, .ref a12, .ref a13, .ref a14, .ref a15, .ref a16, .ref a17, .ref a18])), (a5, .inl (cI, 6, .inl f10)), (a14, .inl (cI, 6, .inl g_V_worn)), (a23, .inl (cI, 46, .inl g_cn_how)), (a22, .inl (cI, 46, .inl g_cn_trader))] := hD
            have hq12 := hp
            refine lv_ior hx hb dX4_layBlaming_66 ?_
            refine lv_topi (fun z14 _ => ?_)
            refine k_cv (wr := [(a6, .inl (cI, 6, .inl g_se_least)), (a7, .inl (cI, 6, .inl g_se_most)), (a4, .inl (cI, 7, .inl g_se_firstOf)), (a3, .inr (8, [.ref a19, .ref a20, .ref a21, .ref a22, .ref a23, .ref a24, .ref a25, .int v_cn_7])), (a19, .inl (cI, 46, .inl g_cn_left)), (a20, .inl (cI, 46, .inl g_cn_right)), (a21, .inl (cI, 46, .inl g_cn_year)), (a5, .inl (cI, 6, .inl f10)), (a14, .inl (cI, 6, .inl g_V_worn)), (a23, .inl (cI, 46, .inl g_cn_how)), (a22, .inl (cI, 46, .inl g_cn_trader))]) (k_rV hC hN hZ hS hA hK hP hD (c92_X4_layBlaming l G cI cJ cB cZ a0 a1 a2 a3 a4 a5 a6 a7 a8 a9 a10 a11 a12 a13 a14 a15 a16 a17 a18 z14 v_se_7 v_se_8 v_se_9 h7 v_V_0 v_V_1 v_V_2 v_V_5 hv_0 hv_1 hv_2 hv_3 hv_4 hv_5 hv_6 hv_7) [2, 8] rfl (by decide +kernel) mi_X4_layBlaming in_X4_layBlaming se_X4_layBlaming wm_X4_97 4 2 rfl rfl rfl hl.1 rfl rfl (Nat.le_of_ble_eq_true rfl) ⟨(Nat.le_of_ble_eq_true rfl), (Nat.le_of_ble_eq_true rfl)⟩ dX4_layBlaming_67 ⟨(Nat.le_of_ble_eq_true rfl), (Nat.le_of_ble_eq_true rfl)⟩) hP hD hS hA [2, 8] [0, 1, 3, 4, 5, 6, 7, 9, 10, 11, 12] rfl rfl (by decide +kernel) (by decide +kernel) (fun u15 H locs hp hP hD hS => ?_)
            obtain ⟨h16, eh16⟩ : ∃ q, q = u15 := ⟨_, rfl⟩
            subst eh16
            have hp : (True) := hp
            have hP : va_P G cl [(a6, .inl (cI, 6, .inl g_se_least)), (a7, .inl (cI, 6, .inl g_se_most)), (a4, .inl (cI, 7, .inl g_se_firstOf)), (a3, .inr (8, [.ref a19, .ref a20, .ref a21, .ref a22, .ref a23, .ref a24, .ref a25, .int v_cn_7])), (a19, .inl (cI, 46, .inl g_cn_left)), (a20, .inl (cI, 46, .inl g_cn_right)), (a21, .inl (cI, 46, .inl g_cn_year)), (a5, .inl (cI, 6, .inl f10)), (a14, .inl (cI, 6, .inl g_V_worn)), (a23, .inl (cI, 46, .inl g_cn_how)), (a22, .inl (cI, 46, .inl g_cn_trader)), (a0, .inr (4, [.ref a1, .ref a2, .ref a3, .ref a4, .ref a5, .ref a6, .ref a7, .int v_se_7, .int v_se_8, .int v_se_9, .int h16])), (a1, .inr (7, [.int v_V_0, .int v_V_1, .int v_V_2, .ref a8, .ref a9, .int v_V_5, .ref a10, .ref a11, .ref a12, .ref a13, .ref a14, .ref a15, .ref a16, .ref a17, .ref a18]))] H := hP
            have hD : va_D A [(a6, .inl (cI, 6, .inl g_se_least)), (a7, .inl (cI, 6, .inl g_se_most)), (a4, .inl (cI, 7, .inl g_se_firstOf)), (a3, .inr (8, [.ref a19, .ref a20, .ref a21, .ref a22, .ref a23, .ref a24, .ref a25, .int v_cn_7])), (a19, .inl (cI, 46, .inl g_cn_left)), (a20, .inl (cI, 46, .inl g_cn_right)), (a21, .inl (cI, 46, .inl g_cn_year)), (a5, .inl (cI, 6, .inl f10)), (a14, .inl (cI, 6, .inl g_V_worn)), (a23, .inl (cI, 46, .inl g_cn_how)), (a22, .inl (cI, 46, .inl g_cn_trader)), (a0, .inr (4, [.ref a1, .ref a2, .ref a3, .ref a4, .ref a5, .ref a6, .ref a7, .int v_se_7, .int v_se_8, .int v_se_9, .int h16])), (a1, .inr (7, [.int v_V_0, .int v_V_1, .int v_V_2, .ref a8, .ref a9, .int v_V_5, .ref a10, .ref a11, .ref a12, .ref a13, .ref a14, .ref a15, .ref a16, .ref a17, .ref a18]))] := hD
            have hq15 := hp
            obtain ⟨z17, ez17⟩ : ∃ q : Int32, q = x5 + Int32.ofInt 1 := ⟨_, rfl⟩
            have tz17 : z17.toInt = x5.toInt + 1 := by rw [ez17]; exact add_i (y := 1) (by have p_ := i_lo x5; show _ ≤ _ + (1 : Int); omega) (by have q_ := i_hi x5; show _ + (1 : Int) ≤ _; omega)
            refine lv_iinc (v := z17) (lv' := [(3, .int z17), (0, .ref a0), (1, .int 5), (2, .int b2)]) hx hb dX4_layBlaming_70 hl (k := 3) rfl ez17.symm (by decide) rfl (fun ls hl => ?_)
            refine lv_goto (tgt := 39) hx hb dX4_layBlaming_73 (by decide) ?_
            exact ih  z17 f10 h16 H locs ls (by omega) (by omega) (hP.subm [12, 0, 1, 7, 2, 3, 4, 5, 6, 8, 9, 10, 11] rfl) (hD.sub [12, 0, 1, 7, 2, 3, 4, 5, 6, 8, 9, 10, 11] (by decide +kernel) rfl) hS (lv_sub hl [1, 2, 3, 0] rfl)
      exact L_39 2147483648 z4 g_se_weight v_se_10 H locs ls (by omega) (by omega) (hP.subm [0, 1, 2, 3, 4, 5, 6, 7, 8, 9, 10, 11, 12] rfl) (hD.sub [0, 1, 2, 3, 4, 5, 6, 7, 8, 9, 10, 11, 12] (by decide +kernel) rfl) hS (lv_sub hl [1, 2, 3, 0] rfl)
  · have dc2 : r1.toInt = 0 := (fa_eq _ _).mp c2
    rw [← hQm]
    exact k_vret hC hr hlk hK hP hD hS (v_se_10, g_se_weight) [12, 0, 1, 2, 3, 4, 5, 6, 7, 8, 9, 10, 11] rfl (by decide +kernel) trivial (Nat.le_of_ble_eq_true rfl) (Nat.le_of_ble_eq_true rfl) dX4_layBlaming_8
set_option maxHeartbeats 4000000 in
set_option maxRecDepth 100000 in
theorem c94_X4_layBlaming (l : Launch) (G : va_G) (cI cJ cB cZ : ClassId) (a0 a1 a2 a3 a4 a5 a6 a7 a8 a9 a10 a11 a12 a13 a14 a15 a16 a17 a18 a19 a20 a21 a22 a23 a24 a25 : Nat) (b2 : Int32) (v_se_7 : Int32) (v_se_8 : Int32) (v_se_9 : Int32) (v_se_10 : Int32) (v_V_0 : Int32) (v_V_1 : Int32) (v_V_2 : Int32) (v_V_5 : Int32) (v_cn_7 : Int32) (g_se_least : Nat → Int32) (g_se_most : Nat → Int32) (g_se_weight : Nat → Int32) (g_se_firstOf : Nat → Int32) (g_cn_left : Nat → Int32) (g_cn_right : Nat → Int32) (g_cn_year : Nat → Int32) (g_V_worn : Nat → Int32) (g_cn_how : Nat → Int32) (g_cn_trader : Nat → Int32) (hv_0 : 0 ≤ v_se_8.toInt) (hv_1 : v_se_9.toInt ≤ 2147483646) (hv_2 : 0 ≤ v_V_0.toInt) (hv_3 : v_V_0.toInt ≤ 110) (hv_4 : 0 ≤ v_V_1.toInt) (hv_5 : v_V_1.toInt ≤ 110) (hv_6 : 0 ≤ v_V_5.toInt) (hv_7 : v_V_5.toInt ≤ 6) (hv_8 : 0 ≤ v_cn_7.toInt) (hv_9 : v_cn_7.toInt ≤ 46) (hT_g_se_least : TA 0 2147483647 g_se_least) (hT_g_se_most : TA (-2147483648) 2147483646 g_se_most) (hT_g_se_firstOf : TA 0 46 g_se_firstOf) : Con l G (TY cI cJ cB cZ) yX4_layBlaming cX4_layBlaming 4 none ({ frames := 5, cells := 0, slots := 0, locals := 115 } : Room) [.ref a0, .int 4, .int b2] [(a0, .inr (4, [.ref a1, .ref a2, .ref a3, .ref a4, .ref a5, .ref a6, .ref a7, .int v_se_7, .int v_se_8, .int v_se_9, .int v_se_10])), (a1, .inr (7, [.int v_V_0, .int v_V_1, .int v_V_2, .ref a8, .ref a9, .int v_V_5, .ref a10, .ref a11, .ref a12, .ref a13, .ref a14, .ref a15, .ref a16, .ref a17, .ref a18])), (a6, .inl (cI, 6, .inl g_se_least)), (a7, .inl (cI, 6, .inl g_se_most)), (a5, .inl (cI, 6, .inl g_se_weight)), (a4, .inl (cI, 7, .inl g_se_firstOf)), (a3, .inr (8, [.ref a19, .ref a20, .ref a21, .ref a22, .ref a23, .ref a24, .ref a25, .int v_cn_7])), (a19, .inl (cI, 46, .inl g_cn_left)), (a20, .inl (cI, 46, .inl g_cn_right)), (a21, .inl (cI, 46, .inl g_cn_year)), (a14, .inl (cI, 6, .inl g_V_worn)), (a23, .inl (cI, 46, .inl g_cn_how)), (a22, .inl (cI, 46, .inl g_cn_trader))] (QV G (TY cI cJ cB cZ) (fun u : Int32 × (Nat → Int32) => (True)) (fun u : Int32 × (Nat → Int32) => [(a0, .inr (4, [.ref a1, .ref a2, .ref a3, .ref a4, .ref a5, .ref a6, .ref a7, .int v_se_7, .int v_se_8, .int v_se_9, .int u.1])), (a1, .inr (7, [.int v_V_0, .int v_V_1, .int v_V_2, .ref a8, .ref a9, .int v_V_5, .ref a10, .ref a11, .ref a12, .ref a13, .ref a14, .ref a15, .ref a16, .ref a17, .ref a18])), (a6, .inl (cI, 6, .inl g_se_least)), (a7, .inl (cI, 6, .inl g_se_most)), (a5, .inl (cI, 6, .inl u.2)), (a4, .inl (cI, 7, .inl g_se_firstOf)), (a3, .inr (8, [.ref a19, .ref a20, .ref a21, .ref a22, .ref a23, .ref a24, .ref a25, .int v_cn_7])), (a19, .inl (cI, 46, .inl g_cn_left)), (a20, .inl (cI, 46, .inl g_cn_right)), (a21, .inl (cI, 46, .inl g_cn_year)), (a14, .inl (cI, 6, .inl g_V_worn)), (a23, .inl (cI, 46, .inl g_cn_how)), (a22, .inl (cI, 46, .inl g_cn_trader))])) := by
  refine k_met (by decide) (Nat.le_of_ble_eq_true rfl) ?_
  intro p e s m below meth c A ls hC hr hlk hnm hN hZ hK hA hP hD hS hl
  have hl : lv_has ls 4 [(0, .ref a0), (1, .int 4), (2, .int b2)] := hl
  generalize hQm : MQ below _ _ s _ _ A = Qm
  generalize (List.toArray _ : Array Value) = args at hC hQm ⊢
  obtain ⟨hx, hb, hml, hown, hts⟩ := id hC
  obtain ⟨H, hH⟩ : ∃ q, q = s.heap := ⟨_, rfl⟩
  obtain ⟨locs, hlo⟩ : ∃ q : List Loc, q = [] := ⟨_, rfl⟩
  have hP : va_P G cl [(a0, .inr (4, [.ref a1, .ref a2, .ref a3, .ref a4, .ref a5, .ref a6, .ref a7, .int v_se_7, .int v_se_8, .int v_se_9, .int v_se_10])), (a1, .inr (7, [.int v_V_0, .int v_V_1, .int v_V_2, .ref a8, .ref a9, .int v_V_5, .ref a10, .ref a11, .ref a12, .ref a13, .ref a14, .ref a15, .ref a16, .ref a17, .ref a18])), (a6, .inl (cI, 6, .inl g_se_least)), (a7, .inl (cI, 6, .inl g_se_most)), (a5, .inl (cI, 6, .inl g_se_weight)), (a4, .inl (cI, 7, .inl g_se_firstOf)), (a3, .inr (8, [.ref a19, .ref a20, .ref a21, .ref a22, .ref a23, .ref a24, .ref a25, .int v_cn_7])), (a19, .inl (cI, 46, .inl g_cn_left)), (a20, .inl (cI, 46, .inl g_cn_right)), (a21, .inl (cI, 46, .inl g_cn_year)), (a14, .inl (cI, 6, .inl g_V_worn)), (a23, .inl (cI, 46, .inl g_cn_how)), (a22, .inl (cI, 46, .inl g_cn_trader))] H := by rw [hH]; exact hP
  have hS : va_S A s.heap H locs := by rw [hH, hlo]; exact hS
  rw [← hlo]
  rw [← hH]
  refine lv_aload_n hx hb dX4_layBlaming_0 rfl (lv_at hl 0 rfl) ?_
  refine lv_iload_n hx hb dX4_layBlaming_1 rfl (lv_at hl 2 rfl) ?_
  refine k_ci (wr := [(a1, .inr (7, [.int v_V_0, .int v_V_1, .int v_V_2, .ref a8, .ref a9, .int v_V_5, .ref a10, .ref a11, .ref a12, .ref a13, .ref a14, .ref a15, .ref a16, .ref a17, .ref a18])), (a6, .inl (cI, 6, .inl g_se_least)), (a7, .inl (cI, 6, .inl g_se_most)), (a5, .inl (cI, 6, .inl g_se_weight)), (a4, .inl (cI, 7, .inl g_se_firstOf)), (a3, .inr (8, [.ref a19, .ref a20, .ref a21, .ref a22, .ref a23, .ref a24, .ref a25, .int v_cn_7])), (a19, .inl (cI, 46, .inl g_cn_left)), (a20, .inl (cI, 46, .inl g_cn_right)), (a21, .inl (cI, 46, .inl g_cn_year)), (a14, .inl (cI, 6, .inl g_V_worn)), (a23, .inl (cI, 46, .inl g_cn_how)), (a22, .inl (cI, 46, .inl g_cn_trader))]) (k_rV hC hN hZ hS hA hK hP hD (c91_X4_isBetter l G cI cJ cB cZ a0 a1 a2 a3 a4 a5 a6 a7 b2 v_se_7 v_se_8 v_se_9 v_se_10 hv_0 hv_1) [0] rfl (by decide +kernel) mi_X4_isBetter in_X4_isBetter se_X4_isBetter wm_X4_176 4 0 rfl rfl rfl hl.1 rfl rfl (Nat.le_of_ble_eq_true rfl) ⟨(Nat.le_of_ble_eq_true rfl), (Nat.le_of_ble_eq_true rfl)⟩ dX4_layBlaming_2 ⟨(Nat.le_of_ble_eq_true rfl), (Nat.le_of_ble_eq_true rfl)⟩) hP hD hS hA [0] [1, 2, 3, 4, 5, 6, 7, 8, 9, 10, 11, 12] rfl rfl (by decide +kernel) (by decide +kernel) (fun r1 u1 H locs hp hP hD hS => ?_)
  have hp : (0 ≤ r1.toInt ∧ r1.toInt ≤ 1) := hp
  have hP : va_P G cl [(a1, .inr (7, [.int v_V_0, .int v_V_1, .int v_V_2, .ref a8, .ref a9, .int v_V_5, .ref a10, .ref a11, .ref a12, .ref a13, .ref a14, .ref a15, .ref a16, .ref a17, .ref a18])), (a6, .inl (cI, 6, .inl g_se_least)), (a7, .inl (cI, 6, .inl g_se_most)), (a5, .inl (cI, 6, .inl g_se_weight)), (a4, .inl (cI, 7, .inl g_se_firstOf)), (a3, .inr (8, [.ref a19, .ref a20, .ref a21, .ref a22, .ref a23, .ref a24, .ref a25, .int v_cn_7])), (a19, .inl (cI, 46, .inl g_cn_left)), (a20, .inl (cI, 46, .inl g_cn_right)), (a21, .inl (cI, 46, .inl g_cn_year)), (a14, .inl (cI, 6, .inl g_V_worn)), (a23, .inl (cI, 46, .inl g_cn_how)), (a22, .inl (cI, 46, .inl g_cn_trader)), (a0, .inr (4, [.ref a1, .ref a2, .ref a3, .ref a4, .ref a5, .ref a6, .ref a7, .int v_se_7, .int v_se_8, .int v_se_9, .int v_se_10]))] H := hP
  have hD : va_D A [(a1, .inr (7, [.int v_V_0, .int v_V_1, .int v_V_2, .ref a8, .ref a9, .int v_V_5, .ref a10, .ref a11, .ref a12, .ref a13, .ref a14, .ref a15, .ref a16, .ref a17, .ref a18])), (a6, .inl (cI, 6, .inl g_se_least)), (a7, .inl (cI, 6, .inl g_se_most)), (a5, .inl (cI, 6, .inl g_se_weight)), (a4, .inl (cI, 7, .inl g_se_firstOf)), (a3, .inr (8, [.ref a19, .ref a20, .ref a21, .ref a22, .ref a23, .ref a24, .ref a25, .int v_cn_7])), (a19, .inl (cI, 46, .inl g_cn_left)), (a20, .inl (cI, 46, .inl g_cn_right)), (a21, .inl (cI, 46, .inl g_cn_year)), (a14, .inl (cI, 6, .inl g_V_worn)), (a23, .inl (cI, 46, .inl g_cn_how)), (a22, .inl (cI, 46, .inl g_cn_trader)), (a0, .inr (4, [.ref a1, .ref a2, .ref a3, .ref a4, .ref a5, .ref a6, .ref a7, .int v_se_7, .int v_se_8, .int v_se_9, .int v_se_10]))] := hD
  have hq1 := hp
  refine lv_if_ne (tgt := 9) hx hb dX4_layBlaming_5 (by decide) (fun c2 => ?_) (fun c2 => ?_)
  · have dc2 : r1.toInt ≠ 0 := fa_ne c2
    refine lv_iload_n hx hb dX4_layBlaming_9 rfl (lv_at hl 1 rfl) ?_
    refine lv_aload_n hx hb dX4_layBlaming_10 rfl (lv_at hl 0 rfl) ?_
    refine k_get hC hK hP iX4 12 0 wf_X4_12 rfl (by decide) rfl rfl dX4_layBlaming_11 ?_
    refine k_getN hC hN hK hP iX7 0 5 wf_X4_109 rfl (by decide) rfl rfl dX4_layBlaming_14 ?_
    refine lv_icmp_ge (tgt := 26) hx hb dX4_layBlaming_17 (by decide) (fun c3 => ?_) (fun c3 => ?_)
    · have dc3 : v_V_5.toInt ≤ 4 := (fa_le _ _).mp c3
      refine lv_aload_n hx hb dX4_layBlaming_26 rfl (lv_at hl 0 rfl) ?_
      refine lv_iload_n hx hb dX4_layBlaming_27 rfl (lv_at hl 2 rfl) ?_
      refine k_put hC hK hP hD hS iX4 tyX4_ok nmX4 12 10 wf_X4_57 rfl (by decide) rfl rfl rfl rfl (Nat.le_of_ble_eq_true rfl) dX4_layBlaming_28 (fun H locs hP hD hS => ?_)
      have hP : va_P G cl [(a1, .inr (7, [.int v_V_0, .int v_V_1, .int v_V_2, .ref a8, .ref a9, .int v_V_5, .ref a10, .ref a11, .ref a12, .ref a13, .ref a14, .ref a15, .ref a16, .ref a17, .ref a18])), (a6, .inl (cI, 6, .inl g_se_least)), (a7, .inl (cI, 6, .inl g_se_most)), (a5, .inl (cI, 6, .inl g_se_weight)), (a4, .inl (cI, 7, .inl g_se_firstOf)), (a3, .inr (8, [.ref a19, .ref a20, .ref a21, .ref a22, .ref a23, .ref a24, .ref a25, .int v_cn_7])), (a19, .inl (cI, 46, .inl g_cn_left)), (a20, .inl (cI, 46, .inl g_cn_right)), (a21, .inl (cI, 46, .inl g_cn_year)), (a14, .inl (cI, 6, .inl g_V_worn)), (a23, .inl (cI, 46, .inl g_cn_how)), (a22, .inl (cI, 46, .inl g_cn_trader)), (a0, .inr (4, [.ref a1, .ref a2, .ref a3, .ref a4, .ref a5, .ref a6, .ref a7, .int v_se_7, .int v_se_8, .int v_se_9, .int b2]))] H := hP
      have hD : va_D A [(a1, .inr (7, [.int v_V_0, .int v_V_1, .int v_V_2, .ref a8, .ref a9, .int v_V_5, .ref a10, .ref a11, .ref a12, .ref a13, .ref a14, .ref a15, .ref a16, .ref a17, .ref a18])), (a6, .inl (cI, 6, .inl g_se_least)), (a7, .inl (cI, 6, .inl g_se_most)), (a5, .inl (cI, 6, .inl g_se_weight)), (a4, .inl (cI, 7, .inl g_se_firstOf)), (a3, .inr (8, [.ref a19, .ref a20, .ref a21, .ref a22, .ref a23, .ref a24, .ref a25, .int v_cn_7])), (a19, .inl (cI, 46, .inl g_cn_left)), (a20, .inl (cI, 46, .inl g_cn_right)), (a21, .inl (cI, 46, .inl g_cn_year)), (a14, .inl (cI, 6, .inl g_V_worn)), (a23, .inl (cI, 46, .inl g_cn_how)), (a22, .inl (cI, 46, .inl g_cn_trader)), (a0, .inr (4, [.ref a1, .ref a2, .ref a3, .ref a4, .ref a5, .ref a6, .ref a7, .int v_se_7, .int v_se_8, .int v_se_9, .int b2]))] := hD
      rw [← hQm]
      exact k_vret hC hr hlk hK hP hD hS (b2, g_se_weight) [12, 0, 1, 2, 3, 4, 5, 6, 7, 8, 9, 10, 11] rfl (by decide +kernel) trivial (Nat.le_of_ble_eq_true rfl) (Nat.le_of_ble_eq_true rfl) dX4_layBlaming_31
    · have dc3 : 4 < v_V_5.toInt := fa_nle c3
      refine lv_iload_n hx hb dX4_layBlaming_20 rfl (lv_at hl 1 rfl) ?_
      refine lv_bipush (v := 6) hx hb dX4_layBlaming_21 (by decide) ?_
      refine lv_icmp_lt (tgt := 32) hx hb dX4_layBlaming_23 (by decide) (fun _ => ?_) (fun c_ => absurd (by decide +kernel) c_)
      refine lv_aload_n hx hb dX4_layBlaming_32 rfl (lv_at hl 0 rfl) ?_
      refine k_get hC hK hP iX4 12 5 wf_X4_41 rfl (by decide) rfl rfl dX4_layBlaming_33 ?_
      refine lv_iload_n hx hb dX4_layBlaming_36 rfl (lv_at hl 1 rfl) ?_
      refine t_iald hC hK hP 1 rfl (by decide) (by decide) hT_g_se_least dX4_layBlaming_37 (fun z4 tz4 => ?_)
      refine lv_istore_n (lv' := [(3, .int z4), (0, .ref a0), (1, .int 4), (2, .int b2)]) hx hb dX4_layBlaming_38 rfl hl (by decide) rfl (fun ls hl => ?_)
      have L_39 : ∀ (n : Nat) (x5 : Int32) (f6 : Nat → Int32) (h7 : Int32) (H : Heap) (locs : List Loc) (ls : Array Slot), (0 ≤ x5.toInt) → 2147483647 - x5.toInt < (n : Int) → va_P G cl [(a1, .inr (7, [.int v_V_0, .int v_V_1, .int v_V_2, .ref a8, .ref a9, .int v_V_5, .ref a10, .ref a11, .ref a12, .ref a13, .ref a14, .ref a15, .ref a16, .ref a17, .ref a18])), (a6, .inl (cI, 6, .inl g_se_least)), (a7, .inl (cI, 6, .inl g_se_most)), (a5, .inl (cI, 6, .inl f6)), (a4, .inl (cI, 7, .inl g_se_firstOf)), (a3, .inr (8, [.ref a19, .ref a20, .ref a21, .ref a22, .ref a23, .ref a24, .ref a25, .int v_cn_7])), (a19, .inl (cI, 46, .inl g_cn_left)), (a20, .inl (cI, 46, .inl g_cn_right)), (a21, .inl (cI, 46, .inl g_cn_year)), (a14, .inl (cI, 6, .inl g_V_worn)), (a23, .inl (cI, 46, .inl g_cn_how)), (a22, .inl (cI, 46, .inl g_cn_trader)), (a0, .inr (4, [.ref a1, .ref a2, .ref a3, .ref a4, .ref a5, .ref a6, .ref a7, .int v_se_7, .int v_se_8, .int v_se_9, .int h7]))] H → va_D A [(a1, .inr (7, [.int v_V_0, .int v_V_1, .int v_V_2, .ref a8, .ref a9, .int v_V_5, .ref a10, .ref a11, .ref a12, .ref a13, .ref a14, .ref a15, .ref a16, .ref a17, .ref a18])), (a6, .inl (cI, 6, .inl g_se_least)), (a7, .inl (cI, 6, .inl g_se_most)), (a5, .inl (cI, 6, .inl f6)), (a4, .inl (cI, 7, .inl g_se_firstOf)), (a3, .inr (8, [.ref a19, .ref a20, .ref a21, .ref a22, .ref a23, .ref a24, .ref a25, .int v_cn_7])), (a19, .inl (cI, 46, .inl g_cn_left)), (a20, .inl (cI, 46, .inl g_cn_right)), (a21, .inl (cI, 46, .inl g_cn_year)), (a14, .inl (cI, 6, .inl g_V_worn)), (a23, .inl (cI, 46, .inl g_cn_how)), (a22, .inl (cI, 46, .inl g_cn_trader)), (a0, .inr (4, [.ref a1, .ref a2, .ref a3, .ref a4, .ref a5, .ref a6, .ref a7, .int v_se_7, .int v_se_8, .int v_se_9, .int h7]))] → va_S A s.heap H locs → lv_has ls 4 [(0, .ref a0), (1, .int 4), (2, .int b2), (3, .int x5)] → W p l e ({ frames := 5, cells := 0, slots := 0, locals := 115 } : Room) s m args below meth c H locs 0 0 Qm (F0 m 39 ls []) := by
        intro n
        induction n with
        | zero => intro x5 f6 h7 H locs ls hv hm; have p_ := i_lo x5; have q_ := i_hi x5; omega
        | succ n ih =>
          intro x5 f6 h7 H locs ls hv hm hP hD hS hl
          have p_ := i_lo x5; have q_ := i_hi x5
          refine lv_iload_n hx hb dX4_layBlaming_39 rfl (lv_at hl 3 rfl) ?_
          refine lv_aload_n hx hb dX4_layBlaming_40 rfl (lv_at hl 0 rfl) ?_
          refine k_get hC hK hP iX4 12 6 wf_X4_44 rfl (by decide) rfl rfl dX4_layBlaming_41 ?_
          refine lv_iload_n hx hb dX4_layBlaming_44 rfl (lv_at hl 1 rfl) ?_
          refine t_iald hC hK hP 2 rfl (by decide) (by decide) hT_g_se_most dX4_layBlaming_45 (fun z8 tz8 => ?_)
          refine lv_icmp_gt (tgt := 76) hx hb dX4_layBlaming_46 (by decide) (fun c9 => ?_) (fun c9 => ?_)
          · have dc9 : z8.toInt < x5.toInt := (fa_lt _ _).mp c9; have lbc9_0 := i_lo z8; have ubc9_1 := i_hi x5
            rw [← hQm]
            exact k_vret hC hr hlk hK hP hD hS (h7, f6) [12, 0, 1, 2, 3, 4, 5, 6, 7, 8, 9, 10, 11] rfl (by decide +kernel) trivial (Nat.le_of_ble_eq_true rfl) (Nat.le_of_ble_eq_true rfl) dX4_layBlaming_76
          · have dc9 : x5.toInt ≤ z8.toInt := fa_nlt c9; have lbc9_0 := i_lo z8; have ubc9_1 := i_hi x5
            refine lv_aload_n hx hb dX4_layBlaming_49 rfl (lv_at hl 0 rfl) ?_
            refine k_get hC hK hP iX4 12 4 wf_X4_38 rfl (by decide) rfl rfl dX4_layBlaming_50 ?_
            refine lv_iload_n hx hb dX4_layBlaming_53 rfl (lv_at hl 1 rfl) ?_
            refine lv_iload_n hx hb dX4_layBlaming_54 rfl (lv_at hl 3 rfl) ?_
            refine t_iast hC hK hP hD hS 3 rfl (by decide) (by decide) (TA.all _) ⟨i_lo _, i_hi _⟩ dX4_layBlaming_55 (fun f10 H locs hT_f10 hP hD hS => ?_)
            have hP : va_P G cl [(a1, .inr (7, [.int v_V_0, .int v_V_1, .int v_V_2, .ref a8, .ref a9, .int v_V_5, .ref a10, .ref a11, .ref a12, .ref a13, .ref a14, .ref a15, .ref a16, .ref a17, .ref a18])), (a6, .inl (cI, 6, .inl g_se_least)), (a7, .inl (cI, 6, .inl g_se_most)), (a5, .inl (cI, 6, .inl f10)), (a4, .inl (cI, 7, .inl g_se_firstOf)), (a3, .inr (8, [.ref a19, .ref a20, .ref a21, .ref a22, .ref a23, .ref a24, .ref a25, .int v_cn_7])), (a19, .inl (cI, 46, .inl g_cn_left)), (a20, .inl (cI, 46, .inl g_cn_right)), (a21, .inl (cI, 46, .inl g_cn_year)), (a14, .inl (cI, 6, .inl g_V_worn)), (a23, .inl (cI, 46, .inl g_cn_how)), (a22, .inl (cI, 46, .inl g_cn_trader)), (a0, .inr (4, [.ref a1, .ref a2, .ref a3, .ref a4, .ref a5, .ref a6, .ref a7, .int v_se_7, .int v_se_8, .int v_se_9, .int h7]))] H := hP
            have hD : va_D A [(a1, .inr (7, [.int v_V_0, .int v_V_1, .int v_V_2, .ref a8, .ref a9, .int v_V_5, .ref a10, .ref a11, .ref a12, .ref a13, .ref a14, .ref a15, .ref a16, .ref a17, .ref a18])), (a6, .inl (cI, 6, .inl g_se_least)), (a7, .inl (cI, 6, .inl g_se_most)), (a5, .inl (cI, 6, .inl f10)), (a4, .inl (cI, 7, .inl g_se_firstOf)), (a3, .inr (8, [.ref a19, .ref a20, .ref a21, .ref a22, .ref a23, .ref a24, .ref a25, .int v_cn_7])), (a19, .inl (cI, 46, .inl g_cn_left)), (a20, .inl (cI, 46, .inl g_cn_right)), (a21, .inl (cI, 46, .inl g_cn_year)), (a14, .inl (cI, 6, .inl g_V_worn)), (a23, .inl (cI, 46, .inl g_cn_how)), (a22, .inl (cI, 46, .inl g_cn_trader)), (a0, .inr (4, [.ref a1, .ref a2, .ref a3, .ref a4, .ref a5, .ref a6, .ref a7, .int v_se_7, .int v_se_8, .int v_se_9, .int h7]))] := hD
            refine lv_aload_n hx hb dX4_layBlaming_56 rfl (lv_at hl 0 rfl) ?_
            refine lv_iload_n hx hb dX4_layBlaming_57 rfl (lv_at hl 1 rfl) ?_
            refine lv_iconst (v := 1) hx hb dX4_layBlaming_58 (by decide) ?_
            refine lv_iadd hx hb dX4_layBlaming_59 ?_
            refine k_i 5 (by decide +kernel) ?_
            refine lv_iload_n hx hb dX4_layBlaming_60 rfl (lv_at hl 2 rfl) ?_
            refine lv_aload_n hx hb dX4_layBlaming_61 rfl (lv_at hl 0 rfl) ?_
            refine lv_iload_n hx hb dX4_layBlaming_62 rfl (lv_at hl 1 rfl) ?_
            have l_l13 : (4 : Int32).toInt = 4 := rfl
            refine k_ci (wr := [(a6, .inl (cI, 6, .inl g_se_least)), (a7, .inl (cI, 6, .inl g_se_most))]) (k_rV hC hN hZ hS hA hK hP hD (c89_X4_blameAt l G cI cJ cB cZ a0 a1 a2 a3 a4 a5 a6 a7 a19 a20 a21 a22 a23 a24 a25 a8 a9 a10 a11 a12 a13 a14 a15 a16 a17 a18 4 v_se_7 v_se_8 v_se_9 h7 v_cn_7 v_V_0 v_V_1 v_V_2 v_V_5 g_se_firstOf g_cn_left g_cn_right g_cn_year f10 g_V_worn g_cn_how g_cn_trader (by omega) (by omega) hv_0 hv_1 hv_8 hv_9 hv_2 hv_3 hv_4 hv_5 hv_6 hv_7 hT_g_se_firstOf) [12, 4, 5, 6, 7, 8, 0, 3, 9, 10, 11] rfl (by decide +kernel) mi_X4_blameAt in_X4_blameAt se_X4_blameAt wm_X4_180 4 12 rfl rfl rfl hl.1 rfl rfl (Nat.le_of_ble_eq_true rfl) ⟨(Nat.le_of_ble_eq_true rfl), (Nat.le_of_ble_eq_true rfl)⟩ dX4_layBlaming_63 ⟨(Nat.le_of_ble_eq_true rfl), (Nat.le_of_ble_eq_true rfl)⟩) hP hD hS hA [12, 4, 5, 6, 7, 8, 0, 3, 9, 10, 11] [1, 2] rfl rfl (by decide +kernel) (by decide +kernel) (fun r12 u12 H locs hp hP hD hS => ?_)
            have hp : (True) := hp
            have hP : va_P G cl [(a6, .inl (cI, 6, .inl g_se_least)), (a7, .inl (cI, 6, .inl g_se_most)), (a0, .inr (4, [.ref a1, .ref a2, .ref a3, .ref a4, .ref a5, .ref a6, .ref a7, .int v_se_7, .int v_se_8, .int v_se_9, .int h7])), (a4, .inl (cI, 7, .inl g_se_firstOf)), (a3, .inr (8, [.ref a19, .ref a20, .ref a21, .ref a22, .ref a23, .ref a24, .ref a25, .int v_cn_7])), (a19, .inl (cI, 46, .inl g_cn_left)), (a20, .inl (cI, 46, .inl g_cn_right)), (a21, .inl (cI, 46, .inl g_cn_year)), (a1, .inr (7, [.int v_V_0, .int v_V_1, .int v_V_2, .ref a8, .ref a9, .int v_V_5, .ref a10, .ref a11, .ref a12, .ref a13, .ref a14, .ref a15, .ref a16, .ref a17, .ref a18])), (a5, .inl (cI, 6, .inl f10)), (a14, .inl (cI, 6, .inl g_V_worn)), (a23, .inl (cI, 46, .inl g_cn_how)), (a22, .inl (cI, 46, .inl g_cn_trader))] H := hP
            have hD : va_D A [(a6, .inl (cI, 6, .inl g_se_least)), (a7, .inl (cI, 6, .inl g_se_most)), (a0, .inr (4, [.ref a1, .ref a2, .ref a3, .ref a4, .ref a5, .ref a6, .ref a7, .int v_se_7, .int v_se_8, .int v_se_9, .int h7])), (a4, .inl (cI, 7, .inl g_se_firstOf)), (a3, .inr (8, [.ref a19, .ref a20, .ref a21, .ref a22, .ref a23, .ref a24, .ref a25, .int v_cn_7])), (a19, .inl (cI, 46, .inl g_cn_left)), (a20, .inl (cI, 46, .inl g_cn_right)), (a21, .inl (cI, 46, .inl g_cn_year)), (a1, .inr (7, [.int v_V_0, .int v_V_1, .int v_V_2, .ref a8, .ref a9, .int v_V_5, .ref a10, .ref a11, .ref a12, .ref a13, .ref a14, .ref a15, .ref a16, .ref a17, .ref a18])), (a5, .inl (cI, 6, .inl f10)), (a14, .inl (cI, 6, .inl g_V_worn)), (a23, .inl (cI, 46, .inl g_cn_how)), (a22, .inl (cI, 46, .inl g_cn_trader))] := hD
            have hq12 := hp
            refine lv_ior hx hb dX4_layBlaming_66 ?_
            refine lv_topi (fun z14 _ => ?_)
            refine k_cv (wr := []) (k_rV hC hN hZ hS hA hK hP hD (c93_X4_layBlaming l G cI cJ cB cZ a0 a1 a2 a3 a4 a5 a6 a7 a8 a9 a10 a11 a12 a13 a14 a15 a16 a17 a18 a19 a20 a21 a22 a23 a24 a25 z14 v_se_7 v_se_8 v_se_9 h7 v_V_0 v_V_1 v_V_2 v_V_5 v_cn_7 g_se_least g_se_most f10 g_se_firstOf g_cn_left g_cn_right g_cn_year g_V_worn g_cn_how g_cn_trader hv_0 hv_1 hv_2 hv_3 hv_4 hv_5 hv_6 hv_7 hv_8 hv_9 hT_g_se_least hT_g_se_most hT_g_se_firstOf) [2, 8, 0, 1, 9, 3, 4, 5, 6, 7, 10, 11, 12] rfl (by decide +kernel) mi_X4_layBlaming in_X4_layBlaming se_X4_layBlaming wm_X4_97 4 2 rfl rfl rfl hl.1 rfl rfl (Nat.le_of_ble_eq_true rfl) ⟨(Nat.le_of_ble_eq_true rfl), (Nat.le_of_ble_eq_true rfl)⟩ dX4_layBlaming_67 ⟨(Nat.le_of_ble_eq_true rfl), (Nat.le_of_ble_eq_true rfl)⟩) hP hD hS hA [2, 8, 0, 1, 9, 3, 4, 5, 6, 7, 10, 11, 12] [] rfl rfl (by decide +kernel) (by decide +kernel) (fun u15 H locs hp hP hD hS => ?_)
            obtain ⟨h16, f17⟩ := u15
            have hp : (True) := hp
            have hP : va_P G cl [(a0, .inr (4, [.ref a1, .ref a2, .ref a3, .ref a4, .ref a5, .ref a6, .ref a7, .int v_se_7, .int v_se_8, .int v_se_9, .int h16])), (a1, .inr (7, [.int v_V_0, .int v_V_1, .int v_V_2, .ref a8, .ref a9, .int v_V_5, .ref a10, .ref a11, .ref a12, .ref a13, .ref a14, .ref a15, .ref a16, .ref a17, .ref a18])), (a6, .inl (cI, 6, .inl g_se_least)), (a7, .inl (cI, 6, .inl g_se_most)), (a5, .inl (cI, 6, .inl f17)), (a4, .inl (cI, 7, .inl g_se_firstOf)), (a3, .inr (8, [.ref a19, .ref a20, .ref a21, .ref a22, .ref a23, .ref a24, .ref a25, .int v_cn_7])), (a19, .inl (cI, 46, .inl g_cn_left)), (a20, .inl (cI, 46, .inl g_cn_right)), (a21, .inl (cI, 46, .inl g_cn_year)), (a14, .inl (cI, 6, .inl g_V_worn)), (a23, .inl (cI, 46, .inl g_cn_how)), (a22, .inl (cI, 46, .inl g_cn_trader))] H := hP
            have hD : va_D A [(a0, .inr (4, [.ref a1, .ref a2, .ref a3, .ref a4, .ref a5, .ref a6, .ref a7, .int v_se_7, .int v_se_8, .int v_se_9, .int h16])), (a1, .inr (7, [.int v_V_0, .int v_V_1, .int v_V_2, .ref a8, .ref a9, .int v_V_5, .ref a10, .ref a11, .ref a12, .ref a13, .ref a14, .ref a15, .ref a16, .ref a17, .ref a18])), (a6, .inl (cI, 6, .inl g_se_least)), (a7, .inl (cI, 6, .inl g_se_most)), (a5, .inl (cI, 6, .inl f17)), (a4, .inl (cI, 7, .inl g_se_firstOf)), (a3, .inr (8, [.ref a19, .ref a20, .ref a21, .ref a22, .ref a23, .ref a24, .ref a25, .int v_cn_7])), (a19, .inl (cI, 46, .inl g_cn_left)), (a20, .inl (cI, 46, .inl g_cn_right)), (a21, .inl (cI, 46, .inl g_cn_year)), (a14, .inl (cI, 6, .inl g_V_worn)), (a23, .inl (cI, 46, .inl g_cn_how)), (a22, .inl (cI, 46, .inl g_cn_trader))] := hD
            have hq15 := hp
            obtain ⟨z18, ez18⟩ : ∃ q : Int32, q = x5 + Int32.ofInt 1 := ⟨_, rfl⟩
            have tz18 : z18.toInt = x5.toInt + 1 := by rw [ez18]; exact add_i (y := 1) (by have p_ := i_lo x5; show _ ≤ _ + (1 : Int); omega) (by have q_ := i_hi x5; show _ + (1 : Int) ≤ _; omega)
            refine lv_iinc (v := z18) (lv' := [(3, .int z18), (0, .ref a0), (1, .int 4), (2, .int b2)]) hx hb dX4_layBlaming_70 hl (k := 3) rfl ez18.symm (by decide) rfl (fun ls hl => ?_)
            refine lv_goto (tgt := 39) hx hb dX4_layBlaming_73 (by decide) ?_
            exact ih  z18 f17 h16 H locs ls (by omega) (by omega) (hP.subm [1, 2, 3, 4, 5, 6, 7, 8, 9, 10, 11, 12, 0] rfl) (hD.sub [1, 2, 3, 4, 5, 6, 7, 8, 9, 10, 11, 12, 0] (by decide +kernel) rfl) hS (lv_sub hl [1, 2, 3, 0] rfl)
      exact L_39 2147483648 z4 g_se_weight v_se_10 H locs ls (by omega) (by omega) (hP.subm [0, 1, 2, 3, 4, 5, 6, 7, 8, 9, 10, 11, 12] rfl) (hD.sub [0, 1, 2, 3, 4, 5, 6, 7, 8, 9, 10, 11, 12] (by decide +kernel) rfl) hS (lv_sub hl [1, 2, 3, 0] rfl)
  · have dc2 : r1.toInt = 0 := (fa_eq _ _).mp c2
    rw [← hQm]
    exact k_vret hC hr hlk hK hP hD hS (v_se_10, g_se_weight) [12, 0, 1, 2, 3, 4, 5, 6, 7, 8, 9, 10, 11] rfl (by decide +kernel) trivial (Nat.le_of_ble_eq_true rfl) (Nat.le_of_ble_eq_true rfl) dX4_layBlaming_8
set_option maxHeartbeats 4000000 in
set_option maxRecDepth 100000 in
theorem c95_X4_layBlaming (l : Launch) (G : va_G) (cI cJ cB cZ : ClassId) (a0 a1 a2 a3 a4 a5 a6 a7 a8 a9 a10 a11 a12 a13 a14 a15 a16 a17 a18 a19 a20 a21 a22 a23 a24 a25 : Nat) (b2 : Int32) (v_se_7 : Int32) (v_se_8 : Int32) (v_se_9 : Int32) (v_se_10 : Int32) (v_V_0 : Int32) (v_V_1 : Int32) (v_V_2 : Int32) (v_V_5 : Int32) (v_cn_7 : Int32) (g_se_least : Nat → Int32) (g_se_most : Nat → Int32) (g_se_weight : Nat → Int32) (g_se_firstOf : Nat → Int32) (g_cn_left : Nat → Int32) (g_cn_right : Nat → Int32) (g_cn_year : Nat → Int32) (g_V_worn : Nat → Int32) (g_cn_how : Nat → Int32) (g_cn_trader : Nat → Int32) (hv_0 : 0 ≤ v_se_8.toInt) (hv_1 : v_se_9.toInt ≤ 2147483646) (hv_2 : 0 ≤ v_V_0.toInt) (hv_3 : v_V_0.toInt ≤ 110) (hv_4 : 0 ≤ v_V_1.toInt) (hv_5 : v_V_1.toInt ≤ 110) (hv_6 : 0 ≤ v_V_5.toInt) (hv_7 : v_V_5.toInt ≤ 6) (hv_8 : 0 ≤ v_cn_7.toInt) (hv_9 : v_cn_7.toInt ≤ 46) (hT_g_se_least : TA 0 2147483647 g_se_least) (hT_g_se_most : TA (-2147483648) 2147483646 g_se_most) (hT_g_se_firstOf : TA 0 46 g_se_firstOf) : Con l G (TY cI cJ cB cZ) yX4_layBlaming cX4_layBlaming 4 none ({ frames := 6, cells := 0, slots := 0, locals := 138 } : Room) [.ref a0, .int 3, .int b2] [(a0, .inr (4, [.ref a1, .ref a2, .ref a3, .ref a4, .ref a5, .ref a6, .ref a7, .int v_se_7, .int v_se_8, .int v_se_9, .int v_se_10])), (a1, .inr (7, [.int v_V_0, .int v_V_1, .int v_V_2, .ref a8, .ref a9, .int v_V_5, .ref a10, .ref a11, .ref a12, .ref a13, .ref a14, .ref a15, .ref a16, .ref a17, .ref a18])), (a6, .inl (cI, 6, .inl g_se_least)), (a7, .inl (cI, 6, .inl g_se_most)), (a5, .inl (cI, 6, .inl g_se_weight)), (a4, .inl (cI, 7, .inl g_se_firstOf)), (a3, .inr (8, [.ref a19, .ref a20, .ref a21, .ref a22, .ref a23, .ref a24, .ref a25, .int v_cn_7])), (a19, .inl (cI, 46, .inl g_cn_left)), (a20, .inl (cI, 46, .inl g_cn_right)), (a21, .inl (cI, 46, .inl g_cn_year)), (a14, .inl (cI, 6, .inl g_V_worn)), (a23, .inl (cI, 46, .inl g_cn_how)), (a22, .inl (cI, 46, .inl g_cn_trader))] (QV G (TY cI cJ cB cZ) (fun u : Int32 × (Nat → Int32) => (True)) (fun u : Int32 × (Nat → Int32) => [(a0, .inr (4, [.ref a1, .ref a2, .ref a3, .ref a4, .ref a5, .ref a6, .ref a7, .int v_se_7, .int v_se_8, .int v_se_9, .int u.1])), (a1, .inr (7, [.int v_V_0, .int v_V_1, .int v_V_2, .ref a8, .ref a9, .int v_V_5, .ref a10, .ref a11, .ref a12, .ref a13, .ref a14, .ref a15, .ref a16, .ref a17, .ref a18])), (a6, .inl (cI, 6, .inl g_se_least)), (a7, .inl (cI, 6, .inl g_se_most)), (a5, .inl (cI, 6, .inl u.2)), (a4, .inl (cI, 7, .inl g_se_firstOf)), (a3, .inr (8, [.ref a19, .ref a20, .ref a21, .ref a22, .ref a23, .ref a24, .ref a25, .int v_cn_7])), (a19, .inl (cI, 46, .inl g_cn_left)), (a20, .inl (cI, 46, .inl g_cn_right)), (a21, .inl (cI, 46, .inl g_cn_year)), (a14, .inl (cI, 6, .inl g_V_worn)), (a23, .inl (cI, 46, .inl g_cn_how)), (a22, .inl (cI, 46, .inl g_cn_trader))])) := by
  refine k_met (by decide) (Nat.le_of_ble_eq_true rfl) ?_
  intro p e s m below meth c A ls hC hr hlk hnm hN hZ hK hA hP hD hS hl
  have hl : lv_has ls 4 [(0, .ref a0), (1, .int 3), (2, .int b2)] := hl
  generalize hQm : MQ below _ _ s _ _ A = Qm
  generalize (List.toArray _ : Array Value) = args at hC hQm ⊢
  obtain ⟨hx, hb, hml, hown, hts⟩ := id hC
  obtain ⟨H, hH⟩ : ∃ q, q = s.heap := ⟨_, rfl⟩
  obtain ⟨locs, hlo⟩ : ∃ q : List Loc, q = [] := ⟨_, rfl⟩
  have hP : va_P G cl [(a0, .inr (4, [.ref a1, .ref a2, .ref a3, .ref a4, .ref a5, .ref a6, .ref a7, .int v_se_7, .int v_se_8, .int v_se_9, .int v_se_10])), (a1, .inr (7, [.int v_V_0, .int v_V_1, .int v_V_2, .ref a8, .ref a9, .int v_V_5, .ref a10, .ref a11, .ref a12, .ref a13, .ref a14, .ref a15, .ref a16, .ref a17, .ref a18])), (a6, .inl (cI, 6, .inl g_se_least)), (a7, .inl (cI, 6, .inl g_se_most)), (a5, .inl (cI, 6, .inl g_se_weight)), (a4, .inl (cI, 7, .inl g_se_firstOf)), (a3, .inr (8, [.ref a19, .ref a20, .ref a21, .ref a22, .ref a23, .ref a24, .ref a25, .int v_cn_7])), (a19, .inl (cI, 46, .inl g_cn_left)), (a20, .inl (cI, 46, .inl g_cn_right)), (a21, .inl (cI, 46, .inl g_cn_year)), (a14, .inl (cI, 6, .inl g_V_worn)), (a23, .inl (cI, 46, .inl g_cn_how)), (a22, .inl (cI, 46, .inl g_cn_trader))] H := by rw [hH]; exact hP
  have hS : va_S A s.heap H locs := by rw [hH, hlo]; exact hS
  rw [← hlo]
  rw [← hH]
  refine lv_aload_n hx hb dX4_layBlaming_0 rfl (lv_at hl 0 rfl) ?_
  refine lv_iload_n hx hb dX4_layBlaming_1 rfl (lv_at hl 2 rfl) ?_
  refine k_ci (wr := [(a1, .inr (7, [.int v_V_0, .int v_V_1, .int v_V_2, .ref a8, .ref a9, .int v_V_5, .ref a10, .ref a11, .ref a12, .ref a13, .ref a14, .ref a15, .ref a16, .ref a17, .ref a18])), (a6, .inl (cI, 6, .inl g_se_least)), (a7, .inl (cI, 6, .inl g_se_most)), (a5, .inl (cI, 6, .inl g_se_weight)), (a4, .inl (cI, 7, .inl g_se_firstOf)), (a3, .inr (8, [.ref a19, .ref a20, .ref a21, .ref a22, .ref a23, .ref a24, .ref a25, .int v_cn_7])), (a19, .inl (cI, 46, .inl g_cn_left)), (a20, .inl (cI, 46, .inl g_cn_right)), (a21, .inl (cI, 46, .inl g_cn_year)), (a14, .inl (cI, 6, .inl g_V_worn)), (a23, .inl (cI, 46, .inl g_cn_how)), (a22, .inl (cI, 46, .inl g_cn_trader))]) (k_rV hC hN hZ hS hA hK hP hD (c91_X4_isBetter l G cI cJ cB cZ a0 a1 a2 a3 a4 a5 a6 a7 b2 v_se_7 v_se_8 v_se_9 v_se_10 hv_0 hv_1) [0] rfl (by decide +kernel) mi_X4_isBetter in_X4_isBetter se_X4_isBetter wm_X4_176 4 0 rfl rfl rfl hl.1 rfl rfl (Nat.le_of_ble_eq_true rfl) ⟨(Nat.le_of_ble_eq_true rfl), (Nat.le_of_ble_eq_true rfl)⟩ dX4_layBlaming_2 ⟨(Nat.le_of_ble_eq_true rfl), (Nat.le_of_ble_eq_true rfl)⟩) hP hD hS hA [0] [1, 2, 3, 4, 5, 6, 7, 8, 9, 10, 11, 12] rfl rfl (by decide +kernel) (by decide +kernel) (fun r1 u1 H locs hp hP hD hS => ?_)
  have hp : (0 ≤ r1.toInt ∧ r1.toInt ≤ 1) := hp
  have hP : va_P G cl [(a1, .inr (7, [.int v_V_0, .int v_V_1, .int v_V_2, .ref a8, .ref a9, .int v_V_5, .ref a10, .ref a11, .ref a12, .ref a13, .ref a14, .ref a15, .ref a16, .ref a17, .ref a18])), (a6, .inl (cI, 6, .inl g_se_least)), (a7, .inl (cI, 6, .inl g_se_most)), (a5, .inl (cI, 6, .inl g_se_weight)), (a4, .inl (cI, 7, .inl g_se_firstOf)), (a3, .inr (8, [.ref a19, .ref a20, .ref a21, .ref a22, .ref a23, .ref a24, .ref a25, .int v_cn_7])), (a19, .inl (cI, 46, .inl g_cn_left)), (a20, .inl (cI, 46, .inl g_cn_right)), (a21, .inl (cI, 46, .inl g_cn_year)), (a14, .inl (cI, 6, .inl g_V_worn)), (a23, .inl (cI, 46, .inl g_cn_how)), (a22, .inl (cI, 46, .inl g_cn_trader)), (a0, .inr (4, [.ref a1, .ref a2, .ref a3, .ref a4, .ref a5, .ref a6, .ref a7, .int v_se_7, .int v_se_8, .int v_se_9, .int v_se_10]))] H := hP
  have hD : va_D A [(a1, .inr (7, [.int v_V_0, .int v_V_1, .int v_V_2, .ref a8, .ref a9, .int v_V_5, .ref a10, .ref a11, .ref a12, .ref a13, .ref a14, .ref a15, .ref a16, .ref a17, .ref a18])), (a6, .inl (cI, 6, .inl g_se_least)), (a7, .inl (cI, 6, .inl g_se_most)), (a5, .inl (cI, 6, .inl g_se_weight)), (a4, .inl (cI, 7, .inl g_se_firstOf)), (a3, .inr (8, [.ref a19, .ref a20, .ref a21, .ref a22, .ref a23, .ref a24, .ref a25, .int v_cn_7])), (a19, .inl (cI, 46, .inl g_cn_left)), (a20, .inl (cI, 46, .inl g_cn_right)), (a21, .inl (cI, 46, .inl g_cn_year)), (a14, .inl (cI, 6, .inl g_V_worn)), (a23, .inl (cI, 46, .inl g_cn_how)), (a22, .inl (cI, 46, .inl g_cn_trader)), (a0, .inr (4, [.ref a1, .ref a2, .ref a3, .ref a4, .ref a5, .ref a6, .ref a7, .int v_se_7, .int v_se_8, .int v_se_9, .int v_se_10]))] := hD
  have hq1 := hp
  refine lv_if_ne (tgt := 9) hx hb dX4_layBlaming_5 (by decide) (fun c2 => ?_) (fun c2 => ?_)
  · have dc2 : r1.toInt ≠ 0 := fa_ne c2
    refine lv_iload_n hx hb dX4_layBlaming_9 rfl (lv_at hl 1 rfl) ?_
    refine lv_aload_n hx hb dX4_layBlaming_10 rfl (lv_at hl 0 rfl) ?_
    refine k_get hC hK hP iX4 12 0 wf_X4_12 rfl (by decide) rfl rfl dX4_layBlaming_11 ?_
    refine k_getN hC hN hK hP iX7 0 5 wf_X4_109 rfl (by decide) rfl rfl dX4_layBlaming_14 ?_
    refine lv_icmp_ge (tgt := 26) hx hb dX4_layBlaming_17 (by decide) (fun c3 => ?_) (fun c3 => ?_)
    · have dc3 : v_V_5.toInt ≤ 3 := (fa_le _ _).mp c3
      refine lv_aload_n hx hb dX4_layBlaming_26 rfl (lv_at hl 0 rfl) ?_
      refine lv_iload_n hx hb dX4_layBlaming_27 rfl (lv_at hl 2 rfl) ?_
      refine k_put hC hK hP hD hS iX4 tyX4_ok nmX4 12 10 wf_X4_57 rfl (by decide) rfl rfl rfl rfl (Nat.le_of_ble_eq_true rfl) dX4_layBlaming_28 (fun H locs hP hD hS => ?_)
      have hP : va_P G cl [(a1, .inr (7, [.int v_V_0, .int v_V_1, .int v_V_2, .ref a8, .ref a9, .int v_V_5, .ref a10, .ref a11, .ref a12, .ref a13, .ref a14, .ref a15, .ref a16, .ref a17, .ref a18])), (a6, .inl (cI, 6, .inl g_se_least)), (a7, .inl (cI, 6, .inl g_se_most)), (a5, .inl (cI, 6, .inl g_se_weight)), (a4, .inl (cI, 7, .inl g_se_firstOf)), (a3, .inr (8, [.ref a19, .ref a20, .ref a21, .ref a22, .ref a23, .ref a24, .ref a25, .int v_cn_7])), (a19, .inl (cI, 46, .inl g_cn_left)), (a20, .inl (cI, 46, .inl g_cn_right)), (a21, .inl (cI, 46, .inl g_cn_year)), (a14, .inl (cI, 6, .inl g_V_worn)), (a23, .inl (cI, 46, .inl g_cn_how)), (a22, .inl (cI, 46, .inl g_cn_trader)), (a0, .inr (4, [.ref a1, .ref a2, .ref a3, .ref a4, .ref a5, .ref a6, .ref a7, .int v_se_7, .int v_se_8, .int v_se_9, .int b2]))] H := hP
      have hD : va_D A [(a1, .inr (7, [.int v_V_0, .int v_V_1, .int v_V_2, .ref a8, .ref a9, .int v_V_5, .ref a10, .ref a11, .ref a12, .ref a13, .ref a14, .ref a15, .ref a16, .ref a17, .ref a18])), (a6, .inl (cI, 6, .inl g_se_least)), (a7, .inl (cI, 6, .inl g_se_most)), (a5, .inl (cI, 6, .inl g_se_weight)), (a4, .inl (cI, 7, .inl g_se_firstOf)), (a3, .inr (8, [.ref a19, .ref a20, .ref a21, .ref a22, .ref a23, .ref a24, .ref a25, .int v_cn_7])), (a19, .inl (cI, 46, .inl g_cn_left)), (a20, .inl (cI, 46, .inl g_cn_right)), (a21, .inl (cI, 46, .inl g_cn_year)), (a14, .inl (cI, 6, .inl g_V_worn)), (a23, .inl (cI, 46, .inl g_cn_how)), (a22, .inl (cI, 46, .inl g_cn_trader)), (a0, .inr (4, [.ref a1, .ref a2, .ref a3, .ref a4, .ref a5, .ref a6, .ref a7, .int v_se_7, .int v_se_8, .int v_se_9, .int b2]))] := hD
      rw [← hQm]
      exact k_vret hC hr hlk hK hP hD hS (b2, g_se_weight) [12, 0, 1, 2, 3, 4, 5, 6, 7, 8, 9, 10, 11] rfl (by decide +kernel) trivial (Nat.le_of_ble_eq_true rfl) (Nat.le_of_ble_eq_true rfl) dX4_layBlaming_31
    · have dc3 : 3 < v_V_5.toInt := fa_nle c3
      refine lv_iload_n hx hb dX4_layBlaming_20 rfl (lv_at hl 1 rfl) ?_
      refine lv_bipush (v := 6) hx hb dX4_layBlaming_21 (by decide) ?_
      refine lv_icmp_lt (tgt := 32) hx hb dX4_layBlaming_23 (by decide) (fun _ => ?_) (fun c_ => absurd (by decide +kernel) c_)
      refine lv_aload_n hx hb dX4_layBlaming_32 rfl (lv_at hl 0 rfl) ?_
      refine k_get hC hK hP iX4 12 5 wf_X4_41 rfl (by decide) rfl rfl dX4_layBlaming_33 ?_
      refine lv_iload_n hx hb dX4_layBlaming_36 rfl (lv_at hl 1 rfl) ?_
      refine t_iald hC hK hP 1 rfl (by decide) (by decide) hT_g_se_least dX4_layBlaming_37 (fun z4 tz4 => ?_)
      refine lv_istore_n (lv' := [(3, .int z4), (0, .ref a0), (1, .int 3), (2, .int b2)]) hx hb dX4_layBlaming_38 rfl hl (by decide) rfl (fun ls hl => ?_)
      have L_39 : ∀ (n : Nat) (x5 : Int32) (f6 : Nat → Int32) (h7 : Int32) (H : Heap) (locs : List Loc) (ls : Array Slot), (0 ≤ x5.toInt) → 2147483647 - x5.toInt < (n : Int) → va_P G cl [(a1, .inr (7, [.int v_V_0, .int v_V_1, .int v_V_2, .ref a8, .ref a9, .int v_V_5, .ref a10, .ref a11, .ref a12, .ref a13, .ref a14, .ref a15, .ref a16, .ref a17, .ref a18])), (a6, .inl (cI, 6, .inl g_se_least)), (a7, .inl (cI, 6, .inl g_se_most)), (a5, .inl (cI, 6, .inl f6)), (a4, .inl (cI, 7, .inl g_se_firstOf)), (a3, .inr (8, [.ref a19, .ref a20, .ref a21, .ref a22, .ref a23, .ref a24, .ref a25, .int v_cn_7])), (a19, .inl (cI, 46, .inl g_cn_left)), (a20, .inl (cI, 46, .inl g_cn_right)), (a21, .inl (cI, 46, .inl g_cn_year)), (a14, .inl (cI, 6, .inl g_V_worn)), (a23, .inl (cI, 46, .inl g_cn_how)), (a22, .inl (cI, 46, .inl g_cn_trader)), (a0, .inr (4, [.ref a1, .ref a2, .ref a3, .ref a4, .ref a5, .ref a6, .ref a7, .int v_se_7, .int v_se_8, .int v_se_9, .int h7]))] H → va_D A [(a1, .inr (7, [.int v_V_0, .int v_V_1, .int v_V_2, .ref a8, .ref a9, .int v_V_5, .ref a10, .ref a11, .ref a12, .ref a13, .ref a14, .ref a15, .ref a16, .ref a17, .ref a18])), (a6, .inl (cI, 6, .inl g_se_least)), (a7, .inl (cI, 6, .inl g_se_most)), (a5, .inl (cI, 6, .inl f6)), (a4, .inl (cI, 7, .inl g_se_firstOf)), (a3, .inr (8, [.ref a19, .ref a20, .ref a21, .ref a22, .ref a23, .ref a24, .ref a25, .int v_cn_7])), (a19, .inl (cI, 46, .inl g_cn_left)), (a20, .inl (cI, 46, .inl g_cn_right)), (a21, .inl (cI, 46, .inl g_cn_year)), (a14, .inl (cI, 6, .inl g_V_worn)), (a23, .inl (cI, 46, .inl g_cn_how)), (a22, .inl (cI, 46, .inl g_cn_trader)), (a0, .inr (4, [.ref a1, .ref a2, .ref a3, .ref a4, .ref a5, .ref a6, .ref a7, .int v_se_7, .int v_se_8, .int v_se_9, .int h7]))] → va_S A s.heap H locs → lv_has ls 4 [(0, .ref a0), (1, .int 3), (2, .int b2), (3, .int x5)] → W p l e ({ frames := 6, cells := 0, slots := 0, locals := 138 } : Room) s m args below meth c H locs 0 0 Qm (F0 m 39 ls []) := by
        intro n
        induction n with
        | zero => intro x5 f6 h7 H locs ls hv hm; have p_ := i_lo x5; have q_ := i_hi x5; omega
        | succ n ih =>
          intro x5 f6 h7 H locs ls hv hm hP hD hS hl
          have p_ := i_lo x5; have q_ := i_hi x5
          refine lv_iload_n hx hb dX4_layBlaming_39 rfl (lv_at hl 3 rfl) ?_
          refine lv_aload_n hx hb dX4_layBlaming_40 rfl (lv_at hl 0 rfl) ?_
          refine k_get hC hK hP iX4 12 6 wf_X4_44 rfl (by decide) rfl rfl dX4_layBlaming_41 ?_
          refine lv_iload_n hx hb dX4_layBlaming_44 rfl (lv_at hl 1 rfl) ?_
          refine t_iald hC hK hP 2 rfl (by decide) (by decide) hT_g_se_most dX4_layBlaming_45 (fun z8 tz8 => ?_)
          refine lv_icmp_gt (tgt := 76) hx hb dX4_layBlaming_46 (by decide) (fun c9 => ?_) (fun c9 => ?_)
          · have dc9 : z8.toInt < x5.toInt := (fa_lt _ _).mp c9; have lbc9_0 := i_lo z8; have ubc9_1 := i_hi x5
            rw [← hQm]
            exact k_vret hC hr hlk hK hP hD hS (h7, f6) [12, 0, 1, 2, 3, 4, 5, 6, 7, 8, 9, 10, 11] rfl (by decide +kernel) trivial (Nat.le_of_ble_eq_true rfl) (Nat.le_of_ble_eq_true rfl) dX4_layBlaming_76
          · have dc9 : x5.toInt ≤ z8.toInt := fa_nlt c9; have lbc9_0 := i_lo z8; have ubc9_1 := i_hi x5
            refine lv_aload_n hx hb dX4_layBlaming_49 rfl (lv_at hl 0 rfl) ?_
            refine k_get hC hK hP iX4 12 4 wf_X4_38 rfl (by decide) rfl rfl dX4_layBlaming_50 ?_
            refine lv_iload_n hx hb dX4_layBlaming_53 rfl (lv_at hl 1 rfl) ?_
            refine lv_iload_n hx hb dX4_layBlaming_54 rfl (lv_at hl 3 rfl) ?_
            refine t_iast hC hK hP hD hS 3 rfl (by decide) (by decide) (TA.all _) ⟨i_lo _, i_hi _⟩ dX4_layBlaming_55 (fun f10 H locs hT_f10 hP hD hS => ?_)
            have hP : va_P G cl [(a1, .inr (7, [.int v_V_0, .int v_V_1, .int v_V_2, .ref a8, .ref a9, .int v_V_5, .ref a10, .ref a11, .ref a12, .ref a13, .ref a14, .ref a15, .ref a16, .ref a17, .ref a18])), (a6, .inl (cI, 6, .inl g_se_least)), (a7, .inl (cI, 6, .inl g_se_most)), (a5, .inl (cI, 6, .inl f10)), (a4, .inl (cI, 7, .inl g_se_firstOf)), (a3, .inr (8, [.ref a19, .ref a20, .ref a21, .ref a22, .ref a23, .ref a24, .ref a25, .int v_cn_7])), (a19, .inl (cI, 46, .inl g_cn_left)), (a20, .inl (cI, 46, .inl g_cn_right)), (a21, .inl (cI, 46, .inl g_cn_year)), (a14, .inl (cI, 6, .inl g_V_worn)), (a23, .inl (cI, 46, .inl g_cn_how)), (a22, .inl (cI, 46, .inl g_cn_trader)), (a0, .inr (4, [.ref a1, .ref a2, .ref a3, .ref a4, .ref a5, .ref a6, .ref a7, .int v_se_7, .int v_se_8, .int v_se_9, .int h7]))] H := hP
            have hD : va_D A [(a1, .inr (7, [.int v_V_0, .int v_V_1, .int v_V_2, .ref a8, .ref a9, .int v_V_5, .ref a10, .ref a11, .ref a12, .ref a13, .ref a14, .ref a15, .ref a16, .ref a17, .ref a18])), (a6, .inl (cI, 6, .inl g_se_least)), (a7, .inl (cI, 6, .inl g_se_most)), (a5, .inl (cI, 6, .inl f10)), (a4, .inl (cI, 7, .inl g_se_firstOf)), (a3, .inr (8, [.ref a19, .ref a20, .ref a21, .ref a22, .ref a23, .ref a24, .ref a25, .int v_cn_7])), (a19, .inl (cI, 46, .inl g_cn_left)), (a20, .inl (cI, 46, .inl g_cn_right)), (a21, .inl (cI, 46, .inl g_cn_year)), (a14, .inl (cI, 6, .inl g_V_worn)), (a23, .inl (cI, 46, .inl g_cn_how)), (a22, .inl (cI, 46, .inl g_cn_trader)), (a0, .inr (4, [.ref a1, .ref a2, .ref a3, .ref a4, .ref a5, .ref a6, .ref a7, .int v_se_7, .int v_se_8, .int v_se_9, .int h7]))] := hD
            refine lv_aload_n hx hb dX4_layBlaming_56 rfl (lv_at hl 0 rfl) ?_
            refine lv_iload_n hx hb dX4_layBlaming_57 rfl (lv_at hl 1 rfl) ?_
            refine lv_iconst (v := 1) hx hb dX4_layBlaming_58 (by decide) ?_
            refine lv_iadd hx hb dX4_layBlaming_59 ?_
            refine k_i 4 (by decide +kernel) ?_
            refine lv_iload_n hx hb dX4_layBlaming_60 rfl (lv_at hl 2 rfl) ?_
            refine lv_aload_n hx hb dX4_layBlaming_61 rfl (lv_at hl 0 rfl) ?_
            refine lv_iload_n hx hb dX4_layBlaming_62 rfl (lv_at hl 1 rfl) ?_
            have l_l13 : (3 : Int32).toInt = 3 := rfl
            refine k_ci (wr := [(a6, .inl (cI, 6, .inl g_se_least)), (a7, .inl (cI, 6, .inl g_se_most))]) (k_rV hC hN hZ hS hA hK hP hD (c89_X4_blameAt l G cI cJ cB cZ a0 a1 a2 a3 a4 a5 a6 a7 a19 a20 a21 a22 a23 a24 a25 a8 a9 a10 a11 a12 a13 a14 a15 a16 a17 a18 3 v_se_7 v_se_8 v_se_9 h7 v_cn_7 v_V_0 v_V_1 v_V_2 v_V_5 g_se_firstOf g_cn_left g_cn_right g_cn_year f10 g_V_worn g_cn_how g_cn_trader (by omega) (by omega) hv_0 hv_1 hv_8 hv_9 hv_2 hv_3 hv_4 hv_5 hv_6 hv_7 hT_g_se_firstOf) [12, 4, 5, 6, 7, 8, 0, 3, 9, 10, 11] rfl (by decide +kernel) mi_X4_blameAt in_X4_blameAt se_X4_blameAt wm_X4_180 4 12 rfl rfl rfl hl.1 rfl rfl (Nat.le_of_ble_eq_true rfl) ⟨(Nat.le_of_ble_eq_true rfl), (Nat.le_of_ble_eq_true rfl)⟩ dX4_layBlaming_63 ⟨(Nat.le_of_ble_eq_true rfl), (Nat.le_of_ble_eq_true rfl)⟩) hP hD hS hA [12, 4, 5, 6, 7, 8, 0, 3, 9, 10, 11] [1, 2] rfl rfl (by decide +kernel) (by decide +kernel) (fun r12 u12 H locs hp hP hD hS => ?_)
            have hp : (True) := hp
            have hP : va_P G cl [(a6, .inl (cI, 6, .inl g_se_least)), (a7, .inl (cI, 6, .inl g_se_most)), (a0, .inr (4, [.ref a1, .ref a2, .ref a3, .ref a4, .ref a5, .ref a6, .ref a7, .int v_se_7, .int v_se_8, .int v_se_9, .int h7])), (a4, .inl (cI, 7, .inl g_se_firstOf)), (a3, .inr (8, [.ref a19, .ref a20, .ref a21, .ref a22, .ref a23, .ref a24, .ref a25, .int v_cn_7])), (a19, .inl (cI, 46, .inl g_cn_left)), (a20, .inl (cI, 46, .inl g_cn_right)), (a21, .inl (cI, 46, .inl g_cn_year)), (a1, .inr (7, [.int v_V_0, .int v_V_1, .int v_V_2, .ref a8, .ref a9, .int v_V_5, .ref a10, .ref a11, .ref a12, .ref a13, .ref a14, .ref a15, .ref a16, .ref a17, .ref a18])), (a5, .inl (cI, 6, .inl f10)), (a14, .inl (cI, 6, .inl g_V_worn)), (a23, .inl (cI, 46, .inl g_cn_how)), (a22, .inl (cI, 46, .inl g_cn_trader))] H := hP
            have hD : va_D A [(a6, .inl (cI, 6, .inl g_se_least)), (a7, .inl (cI, 6, .inl g_se_most)), (a0, .inr (4, [.ref a1, .ref a2, .ref a3, .ref a4, .ref a5, .ref a6, .ref a7, .int v_se_7, .int v_se_8, .int v_se_9, .int h7])), (a4, .inl (cI, 7, .inl g_se_firstOf)), (a3, .inr (8, [.ref a19, .ref a20, .ref a21, .ref a22, .ref a23, .ref a24, .ref a25, .int v_cn_7])), (a19, .inl (cI, 46, .inl g_cn_left)), (a20, .inl (cI, 46, .inl g_cn_right)), (a21, .inl (cI, 46, .inl g_cn_year)), (a1, .inr (7, [.int v_V_0, .int v_V_1, .int v_V_2, .ref a8, .ref a9, .int v_V_5, .ref a10, .ref a11, .ref a12, .ref a13, .ref a14, .ref a15, .ref a16, .ref a17, .ref a18])), (a5, .inl (cI, 6, .inl f10)), (a14, .inl (cI, 6, .inl g_V_worn)), (a23, .inl (cI, 46, .inl g_cn_how)), (a22, .inl (cI, 46, .inl g_cn_trader))] := hD
            have hq12 := hp
            refine lv_ior hx hb dX4_layBlaming_66 ?_
            refine lv_topi (fun z14 _ => ?_)
            refine k_cv (wr := []) (k_rV hC hN hZ hS hA hK hP hD (c94_X4_layBlaming l G cI cJ cB cZ a0 a1 a2 a3 a4 a5 a6 a7 a8 a9 a10 a11 a12 a13 a14 a15 a16 a17 a18 a19 a20 a21 a22 a23 a24 a25 z14 v_se_7 v_se_8 v_se_9 h7 v_V_0 v_V_1 v_V_2 v_V_5 v_cn_7 g_se_least g_se_most f10 g_se_firstOf g_cn_left g_cn_right g_cn_year g_V_worn g_cn_how g_cn_trader hv_0 hv_1 hv_2 hv_3 hv_4 hv_5 hv_6 hv_7 hv_8 hv_9 hT_g_se_least hT_g_se_most hT_g_se_firstOf) [2, 8, 0, 1, 9, 3, 4, 5, 6, 7, 10, 11, 12] rfl (by decide +kernel) mi_X4_layBlaming in_X4_layBlaming se_X4_layBlaming wm_X4_97 4 2 rfl rfl rfl hl.1 rfl rfl (Nat.le_of_ble_eq_true rfl) ⟨(Nat.le_of_ble_eq_true rfl), (Nat.le_of_ble_eq_true rfl)⟩ dX4_layBlaming_67 ⟨(Nat.le_of_ble_eq_true rfl), (Nat.le_of_ble_eq_true rfl)⟩) hP hD hS hA [2, 8, 0, 1, 9, 3, 4, 5, 6, 7, 10, 11, 12] [] rfl rfl (by decide +kernel) (by decide +kernel) (fun u15 H locs hp hP hD hS => ?_)
            obtain ⟨h16, f17⟩ := u15
            have hp : (True) := hp
            have hP : va_P G cl [(a0, .inr (4, [.ref a1, .ref a2, .ref a3, .ref a4, .ref a5, .ref a6, .ref a7, .int v_se_7, .int v_se_8, .int v_se_9, .int h16])), (a1, .inr (7, [.int v_V_0, .int v_V_1, .int v_V_2, .ref a8, .ref a9, .int v_V_5, .ref a10, .ref a11, .ref a12, .ref a13, .ref a14, .ref a15, .ref a16, .ref a17, .ref a18])), (a6, .inl (cI, 6, .inl g_se_least)), (a7, .inl (cI, 6, .inl g_se_most)), (a5, .inl (cI, 6, .inl f17)), (a4, .inl (cI, 7, .inl g_se_firstOf)), (a3, .inr (8, [.ref a19, .ref a20, .ref a21, .ref a22, .ref a23, .ref a24, .ref a25, .int v_cn_7])), (a19, .inl (cI, 46, .inl g_cn_left)), (a20, .inl (cI, 46, .inl g_cn_right)), (a21, .inl (cI, 46, .inl g_cn_year)), (a14, .inl (cI, 6, .inl g_V_worn)), (a23, .inl (cI, 46, .inl g_cn_how)), (a22, .inl (cI, 46, .inl g_cn_trader))] H := hP
            have hD : va_D A [(a0, .inr (4, [.ref a1, .ref a2, .ref a3, .ref a4, .ref a5, .ref a6, .ref a7, .int v_se_7, .int v_se_8, .int v_se_9, .int h16])), (a1, .inr (7, [.int v_V_0, .int v_V_1, .int v_V_2, .ref a8, .ref a9, .int v_V_5, .ref a10, .ref a11, .ref a12, .ref a13, .ref a14, .ref a15, .ref a16, .ref a17, .ref a18])), (a6, .inl (cI, 6, .inl g_se_least)), (a7, .inl (cI, 6, .inl g_se_most)), (a5, .inl (cI, 6, .inl f17)), (a4, .inl (cI, 7, .inl g_se_firstOf)), (a3, .inr (8, [.ref a19, .ref a20, .ref a21, .ref a22, .ref a23, .ref a24, .ref a25, .int v_cn_7])), (a19, .inl (cI, 46, .inl g_cn_left)), (a20, .inl (cI, 46, .inl g_cn_right)), (a21, .inl (cI, 46, .inl g_cn_year)), (a14, .inl (cI, 6, .inl g_V_worn)), (a23, .inl (cI, 46, .inl g_cn_how)), (a22, .inl (cI, 46, .inl g_cn_trader))] := hD
            have hq15 := hp
            obtain ⟨z18, ez18⟩ : ∃ q : Int32, q = x5 + Int32.ofInt 1 := ⟨_, rfl⟩
            have tz18 : z18.toInt = x5.toInt + 1 := by rw [ez18]; exact add_i (y := 1) (by have p_ := i_lo x5; show _ ≤ _ + (1 : Int); omega) (by have q_ := i_hi x5; show _ + (1 : Int) ≤ _; omega)
            refine lv_iinc (v := z18) (lv' := [(3, .int z18), (0, .ref a0), (1, .int 3), (2, .int b2)]) hx hb dX4_layBlaming_70 hl (k := 3) rfl ez18.symm (by decide) rfl (fun ls hl => ?_)
            refine lv_goto (tgt := 39) hx hb dX4_layBlaming_73 (by decide) ?_
            exact ih  z18 f17 h16 H locs ls (by omega) (by omega) (hP.subm [1, 2, 3, 4, 5, 6, 7, 8, 9, 10, 11, 12, 0] rfl) (hD.sub [1, 2, 3, 4, 5, 6, 7, 8, 9, 10, 11, 12, 0] (by decide +kernel) rfl) hS (lv_sub hl [1, 2, 3, 0] rfl)
      exact L_39 2147483648 z4 g_se_weight v_se_10 H locs ls (by omega) (by omega) (hP.subm [0, 1, 2, 3, 4, 5, 6, 7, 8, 9, 10, 11, 12] rfl) (hD.sub [0, 1, 2, 3, 4, 5, 6, 7, 8, 9, 10, 11, 12] (by decide +kernel) rfl) hS (lv_sub hl [1, 2, 3, 0] rfl)
  · have dc2 : r1.toInt = 0 := (fa_eq _ _).mp c2
    rw [← hQm]
    exact k_vret hC hr hlk hK hP hD hS (v_se_10, g_se_weight) [12, 0, 1, 2, 3, 4, 5, 6, 7, 8, 9, 10, 11] rfl (by decide +kernel) trivial (Nat.le_of_ble_eq_true rfl) (Nat.le_of_ble_eq_true rfl) dX4_layBlaming_8
set_option maxHeartbeats 4000000 in
set_option maxRecDepth 100000 in
theorem c96_X4_layBlaming (l : Launch) (G : va_G) (cI cJ cB cZ : ClassId) (a0 a1 a2 a3 a4 a5 a6 a7 a8 a9 a10 a11 a12 a13 a14 a15 a16 a17 a18 a19 a20 a21 a22 a23 a24 a25 : Nat) (b2 : Int32) (v_se_7 : Int32) (v_se_8 : Int32) (v_se_9 : Int32) (v_se_10 : Int32) (v_V_0 : Int32) (v_V_1 : Int32) (v_V_2 : Int32) (v_V_5 : Int32) (v_cn_7 : Int32) (g_se_least : Nat → Int32) (g_se_most : Nat → Int32) (g_se_weight : Nat → Int32) (g_se_firstOf : Nat → Int32) (g_cn_left : Nat → Int32) (g_cn_right : Nat → Int32) (g_cn_year : Nat → Int32) (g_V_worn : Nat → Int32) (g_cn_how : Nat → Int32) (g_cn_trader : Nat → Int32) (hv_0 : 0 ≤ v_se_8.toInt) (hv_1 : v_se_9.toInt ≤ 2147483646) (hv_2 : 0 ≤ v_V_0.toInt) (hv_3 : v_V_0.toInt ≤ 110) (hv_4 : 0 ≤ v_V_1.toInt) (hv_5 : v_V_1.toInt ≤ 110) (hv_6 : 0 ≤ v_V_5.toInt) (hv_7 : v_V_5.toInt ≤ 6) (hv_8 : 0 ≤ v_cn_7.toInt) (hv_9 : v_cn_7.toInt ≤ 46) (hT_g_se_least : TA 0 2147483647 g_se_least) (hT_g_se_most : TA (-2147483648) 2147483646 g_se_most) (hT_g_se_firstOf : TA 0 46 g_se_firstOf) : Con l G (TY cI cJ cB cZ) yX4_layBlaming cX4_layBlaming 4 none ({ frames := 7, cells := 0, slots := 0, locals := 161 } : Room) [.ref a0, .int 2, .int b2] [(a0, .inr (4, [.ref a1, .ref a2, .ref a3, .ref a4, .ref a5, .ref a6, .ref a7, .int v_se_7, .int v_se_8, .int v_se_9, .int v_se_10])), (a1, .inr (7, [.int v_V_0, .int v_V_1, .int v_V_2, .ref a8, .ref a9, .int v_V_5, .ref a10, .ref a11, .ref a12, .ref a13, .ref a14, .ref a15, .ref a16, .ref a17, .ref a18])), (a6, .inl (cI, 6, .inl g_se_least)), (a7, .inl (cI, 6, .inl g_se_most)), (a5, .inl (cI, 6, .inl g_se_weight)), (a4, .inl (cI, 7, .inl g_se_firstOf)), (a3, .inr (8, [.ref a19, .ref a20, .ref a21, .ref a22, .ref a23, .ref a24, .ref a25, .int v_cn_7])), (a19, .inl (cI, 46, .inl g_cn_left)), (a20, .inl (cI, 46, .inl g_cn_right)), (a21, .inl (cI, 46, .inl g_cn_year)), (a14, .inl (cI, 6, .inl g_V_worn)), (a23, .inl (cI, 46, .inl g_cn_how)), (a22, .inl (cI, 46, .inl g_cn_trader))] (QV G (TY cI cJ cB cZ) (fun u : Int32 × (Nat → Int32) => (True)) (fun u : Int32 × (Nat → Int32) => [(a0, .inr (4, [.ref a1, .ref a2, .ref a3, .ref a4, .ref a5, .ref a6, .ref a7, .int v_se_7, .int v_se_8, .int v_se_9, .int u.1])), (a1, .inr (7, [.int v_V_0, .int v_V_1, .int v_V_2, .ref a8, .ref a9, .int v_V_5, .ref a10, .ref a11, .ref a12, .ref a13, .ref a14, .ref a15, .ref a16, .ref a17, .ref a18])), (a6, .inl (cI, 6, .inl g_se_least)), (a7, .inl (cI, 6, .inl g_se_most)), (a5, .inl (cI, 6, .inl u.2)), (a4, .inl (cI, 7, .inl g_se_firstOf)), (a3, .inr (8, [.ref a19, .ref a20, .ref a21, .ref a22, .ref a23, .ref a24, .ref a25, .int v_cn_7])), (a19, .inl (cI, 46, .inl g_cn_left)), (a20, .inl (cI, 46, .inl g_cn_right)), (a21, .inl (cI, 46, .inl g_cn_year)), (a14, .inl (cI, 6, .inl g_V_worn)), (a23, .inl (cI, 46, .inl g_cn_how)), (a22, .inl (cI, 46, .inl g_cn_trader))])) := by
  refine k_met (by decide) (Nat.le_of_ble_eq_true rfl) ?_
  intro p e s m below meth c A ls hC hr hlk hnm hN hZ hK hA hP hD hS hl
  have hl : lv_has ls 4 [(0, .ref a0), (1, .int 2), (2, .int b2)] := hl
  generalize hQm : MQ below _ _ s _ _ A = Qm
  generalize (List.toArray _ : Array Value) = args at hC hQm ⊢
  obtain ⟨hx, hb, hml, hown, hts⟩ := id hC
  obtain ⟨H, hH⟩ : ∃ q, q = s.heap := ⟨_, rfl⟩
  obtain ⟨locs, hlo⟩ : ∃ q : List Loc, q = [] := ⟨_, rfl⟩
  have hP : va_P G cl [(a0, .inr (4, [.ref a1, .ref a2, .ref a3, .ref a4, .ref a5, .ref a6, .ref a7, .int v_se_7, .int v_se_8, .int v_se_9, .int v_se_10])), (a1, .inr (7, [.int v_V_0, .int v_V_1, .int v_V_2, .ref a8, .ref a9, .int v_V_5, .ref a10, .ref a11, .ref a12, .ref a13, .ref a14, .ref a15, .ref a16, .ref a17, .ref a18])), (a6, .inl (cI, 6, .inl g_se_least)), (a7, .inl (cI, 6, .inl g_se_most)), (a5, .inl (cI, 6, .inl g_se_weight)), (a4, .inl (cI, 7, .inl g_se_firstOf)), (a3, .inr (8, [.ref a19, .ref a20, .ref a21, .ref a22, .ref a23, .ref a24, .ref a25, .int v_cn_7])), (a19, .inl (cI, 46, .inl g_cn_left)), (a20, .inl (cI, 46, .inl g_cn_right)), (a21, .inl (cI, 46, .inl g_cn_year)), (a14, .inl (cI, 6, .inl g_V_worn)), (a23, .inl (cI, 46, .inl g_cn_how)), (a22, .inl (cI, 46, .inl g_cn_trader))] H := by rw [hH]; exact hP
  have hS : va_S A s.heap H locs := by rw [hH, hlo]; exact hS
  rw [← hlo]
  rw [← hH]
  refine lv_aload_n hx hb dX4_layBlaming_0 rfl (lv_at hl 0 rfl) ?_
  refine lv_iload_n hx hb dX4_layBlaming_1 rfl (lv_at hl 2 rfl) ?_
  refine k_ci (wr := [(a1, .inr (7, [.int v_V_0, .int v_V_1, .int v_V_2, .ref a8, .ref a9, .int v_V_5, .ref a10, .ref a11, .ref a12, .ref a13, .ref a14, .ref a15, .ref a16, .ref a17, .ref a18])), (a6, .inl (cI, 6, .inl g_se_least)), (a7, .inl (cI, 6, .inl g_se_most)), (a5, .inl (cI, 6, .inl g_se_weight)), (a4, .inl (cI, 7, .inl g_se_firstOf)), (a3, .inr (8, [.ref a19, .ref a20, .ref a21, .ref a22, .ref a23, .ref a24, .ref a25, .int v_cn_7])), (a19, .inl (cI, 46, .inl g_cn_left)), (a20, .inl (cI, 46, .inl g_cn_right)), (a21, .inl (cI, 46, .inl g_cn_year)), (a14, .inl (cI, 6, .inl g_V_worn)), (a23, .inl (cI, 46, .inl g_cn_how)), (a22, .inl (cI, 46, .inl g_cn_trader))]) (k_rV hC hN hZ hS hA hK hP hD (c91_X4_isBetter l G cI cJ cB cZ a0 a1 a2 a3 a4 a5 a6 a7 b2 v_se_7 v_se_8 v_se_9 v_se_10 hv_0 hv_1) [0] rfl (by decide +kernel) mi_X4_isBetter in_X4_isBetter se_X4_isBetter wm_X4_176 4 0 rfl rfl rfl hl.1 rfl rfl (Nat.le_of_ble_eq_true rfl) ⟨(Nat.le_of_ble_eq_true rfl), (Nat.le_of_ble_eq_true rfl)⟩ dX4_layBlaming_2 ⟨(Nat.le_of_ble_eq_true rfl), (Nat.le_of_ble_eq_true rfl)⟩) hP hD hS hA [0] [1, 2, 3, 4, 5, 6, 7, 8, 9, 10, 11, 12] rfl rfl (by decide +kernel) (by decide +kernel) (fun r1 u1 H locs hp hP hD hS => ?_)
  have hp : (0 ≤ r1.toInt ∧ r1.toInt ≤ 1) := hp
  have hP : va_P G cl [(a1, .inr (7, [.int v_V_0, .int v_V_1, .int v_V_2, .ref a8, .ref a9, .int v_V_5, .ref a10, .ref a11, .ref a12, .ref a13, .ref a14, .ref a15, .ref a16, .ref a17, .ref a18])), (a6, .inl (cI, 6, .inl g_se_least)), (a7, .inl (cI, 6, .inl g_se_most)), (a5, .inl (cI, 6, .inl g_se_weight)), (a4, .inl (cI, 7, .inl g_se_firstOf)), (a3, .inr (8, [.ref a19, .ref a20, .ref a21, .ref a22, .ref a23, .ref a24, .ref a25, .int v_cn_7])), (a19, .inl (cI, 46, .inl g_cn_left)), (a20, .inl (cI, 46, .inl g_cn_right)), (a21, .inl (cI, 46, .inl g_cn_year)), (a14, .inl (cI, 6, .inl g_V_worn)), (a23, .inl (cI, 46, .inl g_cn_how)), (a22, .inl (cI, 46, .inl g_cn_trader)), (a0, .inr (4, [.ref a1, .ref a2, .ref a3, .ref a4, .ref a5, .ref a6, .ref a7, .int v_se_7, .int v_se_8, .int v_se_9, .int v_se_10]))] H := hP
  have hD : va_D A [(a1, .inr (7, [.int v_V_0, .int v_V_1, .int v_V_2, .ref a8, .ref a9, .int v_V_5, .ref a10, .ref a11, .ref a12, .ref a13, .ref a14, .ref a15, .ref a16, .ref a17, .ref a18])), (a6, .inl (cI, 6, .inl g_se_least)), (a7, .inl (cI, 6, .inl g_se_most)), (a5, .inl (cI, 6, .inl g_se_weight)), (a4, .inl (cI, 7, .inl g_se_firstOf)), (a3, .inr (8, [.ref a19, .ref a20, .ref a21, .ref a22, .ref a23, .ref a24, .ref a25, .int v_cn_7])), (a19, .inl (cI, 46, .inl g_cn_left)), (a20, .inl (cI, 46, .inl g_cn_right)), (a21, .inl (cI, 46, .inl g_cn_year)), (a14, .inl (cI, 6, .inl g_V_worn)), (a23, .inl (cI, 46, .inl g_cn_how)), (a22, .inl (cI, 46, .inl g_cn_trader)), (a0, .inr (4, [.ref a1, .ref a2, .ref a3, .ref a4, .ref a5, .ref a6, .ref a7, .int v_se_7, .int v_se_8, .int v_se_9, .int v_se_10]))] := hD
  have hq1 := hp
  refine lv_if_ne (tgt := 9) hx hb dX4_layBlaming_5 (by decide) (fun c2 => ?_) (fun c2 => ?_)
  · have dc2 : r1.toInt ≠ 0 := fa_ne c2
    refine lv_iload_n hx hb dX4_layBlaming_9 rfl (lv_at hl 1 rfl) ?_
    refine lv_aload_n hx hb dX4_layBlaming_10 rfl (lv_at hl 0 rfl) ?_
    refine k_get hC hK hP iX4 12 0 wf_X4_12 rfl (by decide) rfl rfl dX4_layBlaming_11 ?_
    refine k_getN hC hN hK hP iX7 0 5 wf_X4_109 rfl (by decide) rfl rfl dX4_layBlaming_14 ?_
    refine lv_icmp_ge (tgt := 26) hx hb dX4_layBlaming_17 (by decide) (fun c3 => ?_) (fun c3 => ?_)
    · have dc3 : v_V_5.toInt ≤ 2 := (fa_le _ _).mp c3
      refine lv_aload_n hx hb dX4_layBlaming_26 rfl (lv_at hl 0 rfl) ?_
      refine lv_iload_n hx hb dX4_layBlaming_27 rfl (lv_at hl 2 rfl) ?_
      refine k_put hC hK hP hD hS iX4 tyX4_ok nmX4 12 10 wf_X4_57 rfl (by decide) rfl rfl rfl rfl (Nat.le_of_ble_eq_true rfl) dX4_layBlaming_28 (fun H locs hP hD hS => ?_)
      have hP : va_P G cl [(a1, .inr (7, [.int v_V_0, .int v_V_1, .int v_V_2, .ref a8, .ref a9, .int v_V_5, .ref a10, .ref a11, .ref a12, .ref a13, .ref a14, .ref a15, .ref a16, .ref a17, .ref a18])), (a6, .inl (cI, 6, .inl g_se_least)), (a7, .inl (cI, 6, .inl g_se_most)), (a5, .inl (cI, 6, .inl g_se_weight)), (a4, .inl (cI, 7, .inl g_se_firstOf)), (a3, .inr (8, [.ref a19, .ref a20, .ref a21, .ref a22, .ref a23, .ref a24, .ref a25, .int v_cn_7])), (a19, .inl (cI, 46, .inl g_cn_left)), (a20, .inl (cI, 46, .inl g_cn_right)), (a21, .inl (cI, 46, .inl g_cn_year)), (a14, .inl (cI, 6, .inl g_V_worn)), (a23, .inl (cI, 46, .inl g_cn_how)), (a22, .inl (cI, 46, .inl g_cn_trader)), (a0, .inr (4, [.ref a1, .ref a2, .ref a3, .ref a4, .ref a5, .ref a6, .ref a7, .int v_se_7, .int v_se_8, .int v_se_9, .int b2]))] H := hP
      have hD : va_D A [(a1, .inr (7, [.int v_V_0, .int v_V_1, .int v_V_2, .ref a8, .ref a9, .int v_V_5, .ref a10, .ref a11, .ref a12, .ref a13, .ref a14, .ref a15, .ref a16, .ref a17, .ref a18])), (a6, .inl (cI, 6, .inl g_se_least)), (a7, .inl (cI, 6, .inl g_se_most)), (a5, .inl (cI, 6, .inl g_se_weight)), (a4, .inl (cI, 7, .inl g_se_firstOf)), (a3, .inr (8, [.ref a19, .ref a20, .ref a21, .ref a22, .ref a23, .ref a24, .ref a25, .int v_cn_7])), (a19, .inl (cI, 46, .inl g_cn_left)), (a20, .inl (cI, 46, .inl g_cn_right)), (a21, .inl (cI, 46, .inl g_cn_year)), (a14, .inl (cI, 6, .inl g_V_worn)), (a23, .inl (cI, 46, .inl g_cn_how)), (a22, .inl (cI, 46, .inl g_cn_trader)), (a0, .inr (4, [.ref a1, .ref a2, .ref a3, .ref a4, .ref a5, .ref a6, .ref a7, .int v_se_7, .int v_se_8, .int v_se_9, .int b2]))] := hD
      rw [← hQm]
      exact k_vret hC hr hlk hK hP hD hS (b2, g_se_weight) [12, 0, 1, 2, 3, 4, 5, 6, 7, 8, 9, 10, 11] rfl (by decide +kernel) trivial (Nat.le_of_ble_eq_true rfl) (Nat.le_of_ble_eq_true rfl) dX4_layBlaming_31
    · have dc3 : 2 < v_V_5.toInt := fa_nle c3
      refine lv_iload_n hx hb dX4_layBlaming_20 rfl (lv_at hl 1 rfl) ?_
      refine lv_bipush (v := 6) hx hb dX4_layBlaming_21 (by decide) ?_
      refine lv_icmp_lt (tgt := 32) hx hb dX4_layBlaming_23 (by decide) (fun _ => ?_) (fun c_ => absurd (by decide +kernel) c_)
      refine lv_aload_n hx hb dX4_layBlaming_32 rfl (lv_at hl 0 rfl) ?_
      refine k_get hC hK hP iX4 12 5 wf_X4_41 rfl (by decide) rfl rfl dX4_layBlaming_33 ?_
      refine lv_iload_n hx hb dX4_layBlaming_36 rfl (lv_at hl 1 rfl) ?_
      refine t_iald hC hK hP 1 rfl (by decide) (by decide) hT_g_se_least dX4_layBlaming_37 (fun z4 tz4 => ?_)
      refine lv_istore_n (lv' := [(3, .int z4), (0, .ref a0), (1, .int 2), (2, .int b2)]) hx hb dX4_layBlaming_38 rfl hl (by decide) rfl (fun ls hl => ?_)
      have L_39 : ∀ (n : Nat) (x5 : Int32) (f6 : Nat → Int32) (h7 : Int32) (H : Heap) (locs : List Loc) (ls : Array Slot), (0 ≤ x5.toInt) → 2147483647 - x5.toInt < (n : Int) → va_P G cl [(a1, .inr (7, [.int v_V_0, .int v_V_1, .int v_V_2, .ref a8, .ref a9, .int v_V_5, .ref a10, .ref a11, .ref a12, .ref a13, .ref a14, .ref a15, .ref a16, .ref a17, .ref a18])), (a6, .inl (cI, 6, .inl g_se_least)), (a7, .inl (cI, 6, .inl g_se_most)), (a5, .inl (cI, 6, .inl f6)), (a4, .inl (cI, 7, .inl g_se_firstOf)), (a3, .inr (8, [.ref a19, .ref a20, .ref a21, .ref a22, .ref a23, .ref a24, .ref a25, .int v_cn_7])), (a19, .inl (cI, 46, .inl g_cn_left)), (a20, .inl (cI, 46, .inl g_cn_right)), (a21, .inl (cI, 46, .inl g_cn_year)), (a14, .inl (cI, 6, .inl g_V_worn)), (a23, .inl (cI, 46, .inl g_cn_how)), (a22, .inl (cI, 46, .inl g_cn_trader)), (a0, .inr (4, [.ref a1, .ref a2, .ref a3, .ref a4, .ref a5, .ref a6, .ref a7, .int v_se_7, .int v_se_8, .int v_se_9, .int h7]))] H → va_D A [(a1, .inr (7, [.int v_V_0, .int v_V_1, .int v_V_2, .ref a8, .ref a9, .int v_V_5, .ref a10, .ref a11, .ref a12, .ref a13, .ref a14, .ref a15, .ref a16, .ref a17, .ref a18])), (a6, .inl (cI, 6, .inl g_se_least)), (a7, .inl (cI, 6, .inl g_se_most)), (a5, .inl (cI, 6, .inl f6)), (a4, .inl (cI, 7, .inl g_se_firstOf)), (a3, .inr (8, [.ref a19, .ref a20, .ref a21, .ref a22, .ref a23, .ref a24, .ref a25, .int v_cn_7])), (a19, .inl (cI, 46, .inl g_cn_left)), (a20, .inl (cI, 46, .inl g_cn_right)), (a21, .inl (cI, 46, .inl g_cn_year)), (a14, .inl (cI, 6, .inl g_V_worn)), (a23, .inl (cI, 46, .inl g_cn_how)), (a22, .inl (cI, 46, .inl g_cn_trader)), (a0, .inr (4, [.ref a1, .ref a2, .ref a3, .ref a4, .ref a5, .ref a6, .ref a7, .int v_se_7, .int v_se_8, .int v_se_9, .int h7]))] → va_S A s.heap H locs → lv_has ls 4 [(0, .ref a0), (1, .int 2), (2, .int b2), (3, .int x5)] → W p l e ({ frames := 7, cells := 0, slots := 0, locals := 161 } : Room) s m args below meth c H locs 0 0 Qm (F0 m 39 ls []) := by
        intro n
        induction n with
        | zero => intro x5 f6 h7 H locs ls hv hm; have p_ := i_lo x5; have q_ := i_hi x5; omega
        | succ n ih =>
          intro x5 f6 h7 H locs ls hv hm hP hD hS hl
          have p_ := i_lo x5; have q_ := i_hi x5
          refine lv_iload_n hx hb dX4_layBlaming_39 rfl (lv_at hl 3 rfl) ?_
          refine lv_aload_n hx hb dX4_layBlaming_40 rfl (lv_at hl 0 rfl) ?_
          refine k_get hC hK hP iX4 12 6 wf_X4_44 rfl (by decide) rfl rfl dX4_layBlaming_41 ?_
          refine lv_iload_n hx hb dX4_layBlaming_44 rfl (lv_at hl 1 rfl) ?_
          refine t_iald hC hK hP 2 rfl (by decide) (by decide) hT_g_se_most dX4_layBlaming_45 (fun z8 tz8 => ?_)
          refine lv_icmp_gt (tgt := 76) hx hb dX4_layBlaming_46 (by decide) (fun c9 => ?_) (fun c9 => ?_)
          · have dc9 : z8.toInt < x5.toInt := (fa_lt _ _).mp c9; have lbc9_0 := i_lo z8; have ubc9_1 := i_hi x5
            rw [← hQm]
            exact k_vret hC hr hlk hK hP hD hS (h7, f6) [12, 0, 1, 2, 3, 4, 5, 6, 7, 8, 9, 10, 11] rfl (by decide +kernel) trivial (Nat.le_of_ble_eq_true rfl) (Nat.le_of_ble_eq_true rfl) dX4_layBlaming_76
          · have dc9 : x5.toInt ≤ z8.toInt := fa_nlt c9; have lbc9_0 := i_lo z8; have ubc9_1 := i_hi x5
            refine lv_aload_n hx hb dX4_layBlaming_49 rfl (lv_at hl 0 rfl) ?_
            refine k_get hC hK hP iX4 12 4 wf_X4_38 rfl (by decide) rfl rfl dX4_layBlaming_50 ?_
            refine lv_iload_n hx hb dX4_layBlaming_53 rfl (lv_at hl 1 rfl) ?_
            refine lv_iload_n hx hb dX4_layBlaming_54 rfl (lv_at hl 3 rfl) ?_
            refine t_iast hC hK hP hD hS 3 rfl (by decide) (by decide) (TA.all _) ⟨i_lo _, i_hi _⟩ dX4_layBlaming_55 (fun f10 H locs hT_f10 hP hD hS => ?_)
            have hP : va_P G cl [(a1, .inr (7, [.int v_V_0, .int v_V_1, .int v_V_2, .ref a8, .ref a9, .int v_V_5, .ref a10, .ref a11, .ref a12, .ref a13, .ref a14, .ref a15, .ref a16, .ref a17, .ref a18])), (a6, .inl (cI, 6, .inl g_se_least)), (a7, .inl (cI, 6, .inl g_se_most)), (a5, .inl (cI, 6, .inl f10)), (a4, .inl (cI, 7, .inl g_se_firstOf)), (a3, .inr (8, [.ref a19, .ref a20, .ref a21, .ref a22, .ref a23, .ref a24, .ref a25, .int v_cn_7])), (a19, .inl (cI, 46, .inl g_cn_left)), (a20, .inl (cI, 46, .inl g_cn_right)), (a21, .inl (cI, 46, .inl g_cn_year)), (a14, .inl (cI, 6, .inl g_V_worn)), (a23, .inl (cI, 46, .inl g_cn_how)), (a22, .inl (cI, 46, .inl g_cn_trader)), (a0, .inr (4, [.ref a1, .ref a2, .ref a3, .ref a4, .ref a5, .ref a6, .ref a7, .int v_se_7, .int v_se_8, .int v_se_9, .int h7]))] H := hP
            have hD : va_D A [(a1, .inr (7, [.int v_V_0, .int v_V_1, .int v_V_2, .ref a8, .ref a9, .int v_V_5, .ref a10, .ref a11, .ref a12, .ref a13, .ref a14, .ref a15, .ref a16, .ref a17, .ref a18])), (a6, .inl (cI, 6, .inl g_se_least)), (a7, .inl (cI, 6, .inl g_se_most)), (a5, .inl (cI, 6, .inl f10)), (a4, .inl (cI, 7, .inl g_se_firstOf)), (a3, .inr (8, [.ref a19, .ref a20, .ref a21, .ref a22, .ref a23, .ref a24, .ref a25, .int v_cn_7])), (a19, .inl (cI, 46, .inl g_cn_left)), (a20, .inl (cI, 46, .inl g_cn_right)), (a21, .inl (cI, 46, .inl g_cn_year)), (a14, .inl (cI, 6, .inl g_V_worn)), (a23, .inl (cI, 46, .inl g_cn_how)), (a22, .inl (cI, 46, .inl g_cn_trader)), (a0, .inr (4, [.ref a1, .ref a2, .ref a3, .ref a4, .ref a5, .ref a6, .ref a7, .int v_se_7, .int v_se_8, .int v_se_9, .int h7]))] := hD
            refine lv_aload_n hx hb dX4_layBlaming_56 rfl (lv_at hl 0 rfl) ?_
            refine lv_iload_n hx hb dX4_layBlaming_57 rfl (lv_at hl 1 rfl) ?_
            refine lv_iconst (v := 1) hx hb dX4_layBlaming_58 (by decide) ?_
            refine lv_iadd hx hb dX4_layBlaming_59 ?_
            refine k_i 3 (by decide +kernel) ?_
            refine lv_iload_n hx hb dX4_layBlaming_60 rfl (lv_at hl 2 rfl) ?_
            refine lv_aload_n hx hb dX4_layBlaming_61 rfl (lv_at hl 0 rfl) ?_
            refine lv_iload_n hx hb dX4_layBlaming_62 rfl (lv_at hl 1 rfl) ?_
            have l_l13 : (2 : Int32).toInt = 2 := rfl
            refine k_ci (wr := [(a6, .inl (cI, 6, .inl g_se_least)), (a7, .inl (cI, 6, .inl g_se_most))]) (k_rV hC hN hZ hS hA hK hP hD (c89_X4_blameAt l G cI cJ cB cZ a0 a1 a2 a3 a4 a5 a6 a7 a19 a20 a21 a22 a23 a24 a25 a8 a9 a10 a11 a12 a13 a14 a15 a16 a17 a18 2 v_se_7 v_se_8 v_se_9 h7 v_cn_7 v_V_0 v_V_1 v_V_2 v_V_5 g_se_firstOf g_cn_left g_cn_right g_cn_year f10 g_V_worn g_cn_how g_cn_trader (by omega) (by omega) hv_0 hv_1 hv_8 hv_9 hv_2 hv_3 hv_4 hv_5 hv_6 hv_7 hT_g_se_firstOf) [12, 4, 5, 6, 7, 8, 0, 3, 9, 10, 11] rfl (by decide +kernel) mi_X4_blameAt in_X4_blameAt se_X4_blameAt wm_X4_180 4 12 rfl rfl rfl hl.1 rfl rfl (Nat.le_of_ble_eq_true rfl) ⟨(Nat.le_of_ble_eq_true rfl), (Nat.le_of_ble_eq_true rfl)⟩ dX4_layBlaming_63 ⟨(Nat.le_of_ble_eq_true rfl), (Nat.le_of_ble_eq_true rfl)⟩) hP hD hS hA [12, 4, 5, 6, 7, 8, 0, 3, 9, 10, 11] [1, 2] rfl rfl (by decide +kernel) (by decide +kernel) (fun r12 u12 H locs hp hP hD hS => ?_)
            have hp : (True) := hp
            have hP : va_P G cl [(a6, .inl (cI, 6, .inl g_se_least)), (a7, .inl (cI, 6, .inl g_se_most)), (a0, .inr (4, [.ref a1, .ref a2, .ref a3, .ref a4, .ref a5, .ref a6, .ref a7, .int v_se_7, .int v_se_8, .int v_se_9, .int h7])), (a4, .inl (cI, 7, .inl g_se_firstOf)), (a3, .inr (8, [.ref a19, .ref a20, .ref a21, .ref a22, .ref a23, .ref a24, .ref a25, .int v_cn_7])), (a19, .inl (cI, 46, .inl g_cn_left)), (a20, .inl (cI, 46, .inl g_cn_right)), (a21, .inl (cI, 46, .inl g_cn_year)), (a1, .inr (7, [.int v_V_0, .int v_V_1, .int v_V_2, .ref a8, .ref a9, .int v_V_5, .ref a10, .ref a11, .ref a12, .ref a13, .ref a14, .ref a15, .ref a16, .ref a17, .ref a18])), (a5, .inl (cI, 6, .inl f10)), (a14, .inl (cI, 6, .inl g_V_worn)), (a23, .inl (cI, 46, .inl g_cn_how)), (a22, .inl (cI, 46, .inl g_cn_trader))] H := hP
            have hD : va_D A [(a6, .inl (cI, 6, .inl g_se_least)), (a7, .inl (cI, 6, .inl g_se_most)), (a0, .inr (4, [.ref a1, .ref a2, .ref a3, .ref a4, .ref a5, .ref a6, .ref a7, .int v_se_7, .int v_se_8, .int v_se_9, .int h7])), (a4, .inl (cI, 7, .inl g_se_firstOf)), (a3, .inr (8, [.ref a19, .ref a20, .ref a21, .ref a22, .ref a23, .ref a24, .ref a25, .int v_cn_7])), (a19, .inl (cI, 46, .inl g_cn_left)), (a20, .inl (cI, 46, .inl g_cn_right)), (a21, .inl (cI, 46, .inl g_cn_year)), (a1, .inr (7, [.int v_V_0, .int v_V_1, .int v_V_2, .ref a8, .ref a9, .int v_V_5, .ref a10, .ref a11, .ref a12, .ref a13, .ref a14, .ref a15, .ref a16, .ref a17, .ref a18])), (a5, .inl (cI, 6, .inl f10)), (a14, .inl (cI, 6, .inl g_V_worn)), (a23, .inl (cI, 46, .inl g_cn_how)), (a22, .inl (cI, 46, .inl g_cn_trader))] := hD
            have hq12 := hp
            refine lv_ior hx hb dX4_layBlaming_66 ?_
            refine lv_topi (fun z14 _ => ?_)
            refine k_cv (wr := []) (k_rV hC hN hZ hS hA hK hP hD (c95_X4_layBlaming l G cI cJ cB cZ a0 a1 a2 a3 a4 a5 a6 a7 a8 a9 a10 a11 a12 a13 a14 a15 a16 a17 a18 a19 a20 a21 a22 a23 a24 a25 z14 v_se_7 v_se_8 v_se_9 h7 v_V_0 v_V_1 v_V_2 v_V_5 v_cn_7 g_se_least g_se_most f10 g_se_firstOf g_cn_left g_cn_right g_cn_year g_V_worn g_cn_how g_cn_trader hv_0 hv_1 hv_2 hv_3 hv_4 hv_5 hv_6 hv_7 hv_8 hv_9 hT_g_se_least hT_g_se_most hT_g_se_firstOf) [2, 8, 0, 1, 9, 3, 4, 5, 6, 7, 10, 11, 12] rfl (by decide +kernel) mi_X4_layBlaming in_X4_layBlaming se_X4_layBlaming wm_X4_97 4 2 rfl rfl rfl hl.1 rfl rfl (Nat.le_of_ble_eq_true rfl) ⟨(Nat.le_of_ble_eq_true rfl), (Nat.le_of_ble_eq_true rfl)⟩ dX4_layBlaming_67 ⟨(Nat.le_of_ble_eq_true rfl), (Nat.le_of_ble_eq_true rfl)⟩) hP hD hS hA [2, 8, 0, 1, 9, 3, 4, 5, 6, 7, 10, 11, 12] [] rfl rfl (by decide +kernel) (by decide +kernel) (fun u15 H locs hp hP hD hS => ?_)
            obtain ⟨h16, f17⟩ := u15
            have hp : (True) := hp
            have hP : va_P G cl [(a0, .inr (4, [.ref a1, .ref a2, .ref a3, .ref a4, .ref a5, .ref a6, .ref a7, .int v_se_7, .int v_se_8, .int v_se_9, .int h16])), (a1, .inr (7, [.int v_V_0, .int v_V_1, .int v_V_2, .ref a8, .ref a9, .int v_V_5, .ref a10, .ref a11, .ref a12, .ref a13, .ref a14, .ref a15, .ref a16, .ref a17, .ref a18])), (a6, .inl (cI, 6, .inl g_se_least)), (a7, .inl (cI, 6, .inl g_se_most)), (a5, .inl (cI, 6, .inl f17)), (a4, .inl (cI, 7, .inl g_se_firstOf)), (a3, .inr (8, [.ref a19, .ref a20, .ref a21, .ref a22, .ref a23, .ref a24, .ref a25, .int v_cn_7])), (a19, .inl (cI, 46, .inl g_cn_left)), (a20, .inl (cI, 46, .inl g_cn_right)), (a21, .inl (cI, 46, .inl g_cn_year)), (a14, .inl (cI, 6, .inl g_V_worn)), (a23, .inl (cI, 46, .inl g_cn_how)), (a22, .inl (cI, 46, .inl g_cn_trader))] H := hP
            have hD : va_D A [(a0, .inr (4, [.ref a1, .ref a2, .ref a3, .ref a4, .ref a5, .ref a6, .ref a7, .int v_se_7, .int v_se_8, .int v_se_9, .int h16])), (a1, .inr (7, [.int v_V_0, .int v_V_1, .int v_V_2, .ref a8, .ref a9, .int v_V_5, .ref a10, .ref a11, .ref a12, .ref a13, .ref a14, .ref a15, .ref a16, .ref a17, .ref a18])), (a6, .inl (cI, 6, .inl g_se_least)), (a7, .inl (cI, 6, .inl g_se_most)), (a5, .inl (cI, 6, .inl f17)), (a4, .inl (cI, 7, .inl g_se_firstOf)), (a3, .inr (8, [.ref a19, .ref a20, .ref a21, .ref a22, .ref a23, .ref a24, .ref a25, .int v_cn_7])), (a19, .inl (cI, 46, .inl g_cn_left)), (a20, .inl (cI, 46, .inl g_cn_right)), (a21, .inl (cI, 46, .inl g_cn_year)), (a14, .inl (cI, 6, .inl g_V_worn)), (a23, .inl (cI, 46, .inl g_cn_how)), (a22, .inl (cI, 46, .inl g_cn_trader))] := hD
            have hq15 := hp
            obtain ⟨z18, ez18⟩ : ∃ q : Int32, q = x5 + Int32.ofInt 1 := ⟨_, rfl⟩
            have tz18 : z18.toInt = x5.toInt + 1 := by rw [ez18]; exact add_i (y := 1) (by have p_ := i_lo x5; show _ ≤ _ + (1 : Int); omega) (by have q_ := i_hi x5; show _ + (1 : Int) ≤ _; omega)
            refine lv_iinc (v := z18) (lv' := [(3, .int z18), (0, .ref a0), (1, .int 2), (2, .int b2)]) hx hb dX4_layBlaming_70 hl (k := 3) rfl ez18.symm (by decide) rfl (fun ls hl => ?_)
            refine lv_goto (tgt := 39) hx hb dX4_layBlaming_73 (by decide) ?_
            exact ih  z18 f17 h16 H locs ls (by omega) (by omega) (hP.subm [1, 2, 3, 4, 5, 6, 7, 8, 9, 10, 11, 12, 0] rfl) (hD.sub [1, 2, 3, 4, 5, 6, 7, 8, 9, 10, 11, 12, 0] (by decide +kernel) rfl) hS (lv_sub hl [1, 2, 3, 0] rfl)
      exact L_39 2147483648 z4 g_se_weight v_se_10 H locs ls (by omega) (by omega) (hP.subm [0, 1, 2, 3, 4, 5, 6, 7, 8, 9, 10, 11, 12] rfl) (hD.sub [0, 1, 2, 3, 4, 5, 6, 7, 8, 9, 10, 11, 12] (by decide +kernel) rfl) hS (lv_sub hl [1, 2, 3, 0] rfl)
  · have dc2 : r1.toInt = 0 := (fa_eq _ _).mp c2
    rw [← hQm]
    exact k_vret hC hr hlk hK hP hD hS (v_se_10, g_se_weight) [12, 0, 1, 2, 3, 4, 5, 6, 7, 8, 9, 10, 11] rfl (by decide +kernel) trivial (Nat.le_of_ble_eq_true rfl) (Nat.le_of_ble_eq_true rfl) dX4_layBlaming_8
set_option maxHeartbeats 4000000 in
set_option maxRecDepth 100000 in
theorem c97_X4_layBlaming (l : Launch) (G : va_G) (cI cJ cB cZ : ClassId) (a0 a1 a2 a3 a4 a5 a6 a7 a8 a9 a10 a11 a12 a13 a14 a15 a16 a17 a18 a19 a20 a21 a22 a23 a24 a25 : Nat) (b2 : Int32) (v_se_7 : Int32) (v_se_8 : Int32) (v_se_9 : Int32) (v_se_10 : Int32) (v_V_0 : Int32) (v_V_1 : Int32) (v_V_2 : Int32) (v_V_5 : Int32) (v_cn_7 : Int32) (g_se_least : Nat → Int32) (g_se_most : Nat → Int32) (g_se_weight : Nat → Int32) (g_se_firstOf : Nat → Int32) (g_cn_left : Nat → Int32) (g_cn_right : Nat → Int32) (g_cn_year : Nat → Int32) (g_V_worn : Nat → Int32) (g_cn_how : Nat → Int32) (g_cn_trader : Nat → Int32) (hv_0 : 0 ≤ v_se_8.toInt) (hv_1 : v_se_9.toInt ≤ 2147483646) (hv_2 : 0 ≤ v_V_0.toInt) (hv_3 : v_V_0.toInt ≤ 110) (hv_4 : 0 ≤ v_V_1.toInt) (hv_5 : v_V_1.toInt ≤ 110) (hv_6 : 0 ≤ v_V_5.toInt) (hv_7 : v_V_5.toInt ≤ 6) (hv_8 : 0 ≤ v_cn_7.toInt) (hv_9 : v_cn_7.toInt ≤ 46) (hT_g_se_least : TA 0 2147483647 g_se_least) (hT_g_se_most : TA (-2147483648) 2147483646 g_se_most) (hT_g_se_firstOf : TA 0 46 g_se_firstOf) : Con l G (TY cI cJ cB cZ) yX4_layBlaming cX4_layBlaming 4 none ({ frames := 8, cells := 0, slots := 0, locals := 184 } : Room) [.ref a0, .int 1, .int b2] [(a0, .inr (4, [.ref a1, .ref a2, .ref a3, .ref a4, .ref a5, .ref a6, .ref a7, .int v_se_7, .int v_se_8, .int v_se_9, .int v_se_10])), (a1, .inr (7, [.int v_V_0, .int v_V_1, .int v_V_2, .ref a8, .ref a9, .int v_V_5, .ref a10, .ref a11, .ref a12, .ref a13, .ref a14, .ref a15, .ref a16, .ref a17, .ref a18])), (a6, .inl (cI, 6, .inl g_se_least)), (a7, .inl (cI, 6, .inl g_se_most)), (a5, .inl (cI, 6, .inl g_se_weight)), (a4, .inl (cI, 7, .inl g_se_firstOf)), (a3, .inr (8, [.ref a19, .ref a20, .ref a21, .ref a22, .ref a23, .ref a24, .ref a25, .int v_cn_7])), (a19, .inl (cI, 46, .inl g_cn_left)), (a20, .inl (cI, 46, .inl g_cn_right)), (a21, .inl (cI, 46, .inl g_cn_year)), (a14, .inl (cI, 6, .inl g_V_worn)), (a23, .inl (cI, 46, .inl g_cn_how)), (a22, .inl (cI, 46, .inl g_cn_trader))] (QV G (TY cI cJ cB cZ) (fun u : Int32 × (Nat → Int32) => (True)) (fun u : Int32 × (Nat → Int32) => [(a0, .inr (4, [.ref a1, .ref a2, .ref a3, .ref a4, .ref a5, .ref a6, .ref a7, .int v_se_7, .int v_se_8, .int v_se_9, .int u.1])), (a1, .inr (7, [.int v_V_0, .int v_V_1, .int v_V_2, .ref a8, .ref a9, .int v_V_5, .ref a10, .ref a11, .ref a12, .ref a13, .ref a14, .ref a15, .ref a16, .ref a17, .ref a18])), (a6, .inl (cI, 6, .inl g_se_least)), (a7, .inl (cI, 6, .inl g_se_most)), (a5, .inl (cI, 6, .inl u.2)), (a4, .inl (cI, 7, .inl g_se_firstOf)), (a3, .inr (8, [.ref a19, .ref a20, .ref a21, .ref a22, .ref a23, .ref a24, .ref a25, .int v_cn_7])), (a19, .inl (cI, 46, .inl g_cn_left)), (a20, .inl (cI, 46, .inl g_cn_right)), (a21, .inl (cI, 46, .inl g_cn_year)), (a14, .inl (cI, 6, .inl g_V_worn)), (a23, .inl (cI, 46, .inl g_cn_how)), (a22, .inl (cI, 46, .inl g_cn_trader))])) := by
  refine k_met (by decide) (Nat.le_of_ble_eq_true rfl) ?_
  intro p e s m below meth c A ls hC hr hlk hnm hN hZ hK hA hP hD hS hl
  have hl : lv_has ls 4 [(0, .ref a0), (1, .int 1), (2, .int b2)] := hl
  generalize hQm : MQ below _ _ s _ _ A = Qm
  generalize (List.toArray _ : Array Value) = args at hC hQm ⊢
  obtain ⟨hx, hb, hml, hown, hts⟩ := id hC
  obtain ⟨H, hH⟩ : ∃ q, q = s.heap := ⟨_, rfl⟩
  obtain ⟨locs, hlo⟩ : ∃ q : List Loc, q = [] := ⟨_, rfl⟩
  have hP : va_P G cl [(a0, .inr (4, [.ref a1, .ref a2, .ref a3, .ref a4, .ref a5, .ref a6, .ref a7, .int v_se_7, .int v_se_8, .int v_se_9, .int v_se_10])), (a1, .inr (7, [.int v_V_0, .int v_V_1, .int v_V_2, .ref a8, .ref a9, .int v_V_5, .ref a10, .ref a11, .ref a12, .ref a13, .ref a14, .ref a15, .ref a16, .ref a17, .ref a18])), (a6, .inl (cI, 6, .inl g_se_least)), (a7, .inl (cI, 6, .inl g_se_most)), (a5, .inl (cI, 6, .inl g_se_weight)), (a4, .inl (cI, 7, .inl g_se_firstOf)), (a3, .inr (8, [.ref a19, .ref a20, .ref a21, .ref a22, .ref a23, .ref a24, .ref a25, .int v_cn_7])), (a19, .inl (cI, 46, .inl g_cn_left)), (a20, .inl (cI, 46, .inl g_cn_right)), (a21, .inl (cI, 46, .inl g_cn_year)), (a14, .inl (cI, 6, .inl g_V_worn)), (a23, .inl (cI, 46, .inl g_cn_how)), (a22, .inl (cI, 46, .inl g_cn_trader))] H := by rw [hH]; exact hP
  have hS : va_S A s.heap H locs := by rw [hH, hlo]; exact hS
  rw [← hlo]
  rw [← hH]
  refine lv_aload_n hx hb dX4_layBlaming_0 rfl (lv_at hl 0 rfl) ?_
  refine lv_iload_n hx hb dX4_layBlaming_1 rfl (lv_at hl 2 rfl) ?_
  refine k_ci (wr := [(a1, .inr (7, [.int v_V_0, .int v_V_1, .int v_V_2, .ref a8, .ref a9, .int v_V_5, .ref a10, .ref a11, .ref a12, .ref a13, .ref a14, .ref a15, .ref a16, .ref a17, .ref a18])), (a6, .inl (cI, 6, .inl g_se_least)), (a7, .inl (cI, 6, .inl g_se_most)), (a5, .inl (cI, 6, .inl g_se_weight)), (a4, .inl (cI, 7, .inl g_se_firstOf)), (a3, .inr (8, [.ref a19, .ref a20, .ref a21, .ref a22, .ref a23, .ref a24, .ref a25, .int v_cn_7])), (a19, .inl (cI, 46, .inl g_cn_left)), (a20, .inl (cI, 46, .inl g_cn_right)), (a21, .inl (cI, 46, .inl g_cn_year)), (a14, .inl (cI, 6, .inl g_V_worn)), (a23, .inl (cI, 46, .inl g_cn_how)), (a22, .inl (cI, 46, .inl g_cn_trader))]) (k_rV hC hN hZ hS hA hK hP hD (c91_X4_isBetter l G cI cJ cB cZ a0 a1 a2 a3 a4 a5 a6 a7 b2 v_se_7 v_se_8 v_se_9 v_se_10 hv_0 hv_1) [0] rfl (by decide +kernel) mi_X4_isBetter in_X4_isBetter se_X4_isBetter wm_X4_176 4 0 rfl rfl rfl hl.1 rfl rfl (Nat.le_of_ble_eq_true rfl) ⟨(Nat.le_of_ble_eq_true rfl), (Nat.le_of_ble_eq_true rfl)⟩ dX4_layBlaming_2 ⟨(Nat.le_of_ble_eq_true rfl), (Nat.le_of_ble_eq_true rfl)⟩) hP hD hS hA [0] [1, 2, 3, 4, 5, 6, 7, 8, 9, 10, 11, 12] rfl rfl (by decide +kernel) (by decide +kernel) (fun r1 u1 H locs hp hP hD hS => ?_)
  have hp : (0 ≤ r1.toInt ∧ r1.toInt ≤ 1) := hp
  have hP : va_P G cl [(a1, .inr (7, [.int v_V_0, .int v_V_1, .int v_V_2, .ref a8, .ref a9, .int v_V_5, .ref a10, .ref a11, .ref a12, .ref a13, .ref a14, .ref a15, .ref a16, .ref a17, .ref a18])), (a6, .inl (cI, 6, .inl g_se_least)), (a7, .inl (cI, 6, .inl g_se_most)), (a5, .inl (cI, 6, .inl g_se_weight)), (a4, .inl (cI, 7, .inl g_se_firstOf)), (a3, .inr (8, [.ref a19, .ref a20, .ref a21, .ref a22, .ref a23, .ref a24, .ref a25, .int v_cn_7])), (a19, .inl (cI, 46, .inl g_cn_left)), (a20, .inl (cI, 46, .inl g_cn_right)), (a21, .inl (cI, 46, .inl g_cn_year)), (a14, .inl (cI, 6, .inl g_V_worn)), (a23, .inl (cI, 46, .inl g_cn_how)), (a22, .inl (cI, 46, .inl g_cn_trader)), (a0, .inr (4, [.ref a1, .ref a2, .ref a3, .ref a4, .ref a5, .ref a6, .ref a7, .int v_se_7, .int v_se_8, .int v_se_9, .int v_se_10]))] H := hP
  have hD : va_D A [(a1, .inr (7, [.int v_V_0, .int v_V_1, .int v_V_2, .ref a8, .ref a9, .int v_V_5, .ref a10, .ref a11, .ref a12, .ref a13, .ref a14, .ref a15, .ref a16, .ref a17, .ref a18])), (a6, .inl (cI, 6, .inl g_se_least)), (a7, .inl (cI, 6, .inl g_se_most)), (a5, .inl (cI, 6, .inl g_se_weight)), (a4, .inl (cI, 7, .inl g_se_firstOf)), (a3, .inr (8, [.ref a19, .ref a20, .ref a21, .ref a22, .ref a23, .ref a24, .ref a25, .int v_cn_7])), (a19, .inl (cI, 46, .inl g_cn_left)), (a20, .inl (cI, 46, .inl g_cn_right)), (a21, .inl (cI, 46, .inl g_cn_year)), (a14, .inl (cI, 6, .inl g_V_worn)), (a23, .inl (cI, 46, .inl g_cn_how)), (a22, .inl (cI, 46, .inl g_cn_trader)), (a0, .inr (4, [.ref a1, .ref a2, .ref a3, .ref a4, .ref a5, .ref a6, .ref a7, .int v_se_7, .int v_se_8, .int v_se_9, .int v_se_10]))] := hD
  have hq1 := hp
  refine lv_if_ne (tgt := 9) hx hb dX4_layBlaming_5 (by decide) (fun c2 => ?_) (fun c2 => ?_)
  · have dc2 : r1.toInt ≠ 0 := fa_ne c2
    refine lv_iload_n hx hb dX4_layBlaming_9 rfl (lv_at hl 1 rfl) ?_
    refine lv_aload_n hx hb dX4_layBlaming_10 rfl (lv_at hl 0 rfl) ?_
    refine k_get hC hK hP iX4 12 0 wf_X4_12 rfl (by decide) rfl rfl dX4_layBlaming_11 ?_
    refine k_getN hC hN hK hP iX7 0 5 wf_X4_109 rfl (by decide) rfl rfl dX4_layBlaming_14 ?_
    refine lv_icmp_ge (tgt := 26) hx hb dX4_layBlaming_17 (by decide) (fun c3 => ?_) (fun c3 => ?_)
    · have dc3 : v_V_5.toInt ≤ 1 := (fa_le _ _).mp c3
      refine lv_aload_n hx hb dX4_layBlaming_26 rfl (lv_at hl 0 rfl) ?_
      refine lv_iload_n hx hb dX4_layBlaming_27 rfl (lv_at hl 2 rfl) ?_
      refine k_put hC hK hP hD hS iX4 tyX4_ok nmX4 12 10 wf_X4_57 rfl (by decide) rfl rfl rfl rfl (Nat.le_of_ble_eq_true rfl) dX4_layBlaming_28 (fun H locs hP hD hS => ?_)
      have hP : va_P G cl [(a1, .inr (7, [.int v_V_0, .int v_V_1, .int v_V_2, .ref a8, .ref a9, .int v_V_5, .ref a10, .ref a11, .ref a12, .ref a13, .ref a14, .ref a15, .ref a16, .ref a17, .ref a18])), (a6, .inl (cI, 6, .inl g_se_least)), (a7, .inl (cI, 6, .inl g_se_most)), (a5, .inl (cI, 6, .inl g_se_weight)), (a4, .inl (cI, 7, .inl g_se_firstOf)), (a3, .inr (8, [.ref a19, .ref a20, .ref a21, .ref a22, .ref a23, .ref a24, .ref a25, .int v_cn_7])), (a19, .inl (cI, 46, .inl g_cn_left)), (a20, .inl (cI, 46, .inl g_cn_right)), (a21, .inl (cI, 46, .inl g_cn_year)), (a14, .inl (cI, 6, .inl g_V_worn)), (a23, .inl (cI, 46, .inl g_cn_how)), (a22, .inl (cI, 46, .inl g_cn_trader)), (a0, .inr (4, [.ref a1, .ref a2, .ref a3, .ref a4, .ref a5, .ref a6, .ref a7, .int v_se_7, .int v_se_8, .int v_se_9, .int b2]))] H := hP
      have hD : va_D A [(a1, .inr (7, [.int v_V_0, .int v_V_1, .int v_V_2, .ref a8, .ref a9, .int v_V_5, .ref a10, .ref a11, .ref a12, .ref a13, .ref a14, .ref a15, .ref a16, .ref a17, .ref a18])), (a6, .inl (cI, 6, .inl g_se_least)), (a7, .inl (cI, 6, .inl g_se_most)), (a5, .inl (cI, 6, .inl g_se_weight)), (a4, .inl (cI, 7, .inl g_se_firstOf)), (a3, .inr (8, [.ref a19, .ref a20, .ref a21, .ref a22, .ref a23, .ref a24, .ref a25, .int v_cn_7])), (a19, .inl (cI, 46, .inl g_cn_left)), (a20, .inl (cI, 46, .inl g_cn_right)), (a21, .inl (cI, 46, .inl g_cn_year)), (a14, .inl (cI, 6, .inl g_V_worn)), (a23, .inl (cI, 46, .inl g_cn_how)), (a22, .inl (cI, 46, .inl g_cn_trader)), (a0, .inr (4, [.ref a1, .ref a2, .ref a3, .ref a4, .ref a5, .ref a6, .ref a7, .int v_se_7, .int v_se_8, .int v_se_9, .int b2]))] := hD
      rw [← hQm]
      exact k_vret hC hr hlk hK hP hD hS (b2, g_se_weight) [12, 0, 1, 2, 3, 4, 5, 6, 7, 8, 9, 10, 11] rfl (by decide +kernel) trivial (Nat.le_of_ble_eq_true rfl) (Nat.le_of_ble_eq_true rfl) dX4_layBlaming_31
    · have dc3 : 1 < v_V_5.toInt := fa_nle c3
      refine lv_iload_n hx hb dX4_layBlaming_20 rfl (lv_at hl 1 rfl) ?_
      refine lv_bipush (v := 6) hx hb dX4_layBlaming_21 (by decide) ?_
      refine lv_icmp_lt (tgt := 32) hx hb dX4_layBlaming_23 (by decide) (fun _ => ?_) (fun c_ => absurd (by decide +kernel) c_)
      refine lv_aload_n hx hb dX4_layBlaming_32 rfl (lv_at hl 0 rfl) ?_
      refine k_get hC hK hP iX4 12 5 wf_X4_41 rfl (by decide) rfl rfl dX4_layBlaming_33 ?_
      refine lv_iload_n hx hb dX4_layBlaming_36 rfl (lv_at hl 1 rfl) ?_
      refine t_iald hC hK hP 1 rfl (by decide) (by decide) hT_g_se_least dX4_layBlaming_37 (fun z4 tz4 => ?_)
      refine lv_istore_n (lv' := [(3, .int z4), (0, .ref a0), (1, .int 1), (2, .int b2)]) hx hb dX4_layBlaming_38 rfl hl (by decide) rfl (fun ls hl => ?_)
      have L_39 : ∀ (n : Nat) (x5 : Int32) (f6 : Nat → Int32) (h7 : Int32) (H : Heap) (locs : List Loc) (ls : Array Slot), (0 ≤ x5.toInt) → 2147483647 - x5.toInt < (n : Int) → va_P G cl [(a1, .inr (7, [.int v_V_0, .int v_V_1, .int v_V_2, .ref a8, .ref a9, .int v_V_5, .ref a10, .ref a11, .ref a12, .ref a13, .ref a14, .ref a15, .ref a16, .ref a17, .ref a18])), (a6, .inl (cI, 6, .inl g_se_least)), (a7, .inl (cI, 6, .inl g_se_most)), (a5, .inl (cI, 6, .inl f6)), (a4, .inl (cI, 7, .inl g_se_firstOf)), (a3, .inr (8, [.ref a19, .ref a20, .ref a21, .ref a22, .ref a23, .ref a24, .ref a25, .int v_cn_7])), (a19, .inl (cI, 46, .inl g_cn_left)), (a20, .inl (cI, 46, .inl g_cn_right)), (a21, .inl (cI, 46, .inl g_cn_year)), (a14, .inl (cI, 6, .inl g_V_worn)), (a23, .inl (cI, 46, .inl g_cn_how)), (a22, .inl (cI, 46, .inl g_cn_trader)), (a0, .inr (4, [.ref a1, .ref a2, .ref a3, .ref a4, .ref a5, .ref a6, .ref a7, .int v_se_7, .int v_se_8, .int v_se_9, .int h7]))] H → va_D A [(a1, .inr (7, [.int v_V_0, .int v_V_1, .int v_V_2, .ref a8, .ref a9, .int v_V_5, .ref a10, .ref a11, .ref a12, .ref a13, .ref a14, .ref a15, .ref a16, .ref a17, .ref a18])), (a6, .inl (cI, 6, .inl g_se_least)), (a7, .inl (cI, 6, .inl g_se_most)), (a5, .inl (cI, 6, .inl f6)), (a4, .inl (cI, 7, .inl g_se_firstOf)), (a3, .inr (8, [.ref a19, .ref a20, .ref a21, .ref a22, .ref a23, .ref a24, .ref a25, .int v_cn_7])), (a19, .inl (cI, 46, .inl g_cn_left)), (a20, .inl (cI, 46, .inl g_cn_right)), (a21, .inl (cI, 46, .inl g_cn_year)), (a14, .inl (cI, 6, .inl g_V_worn)), (a23, .inl (cI, 46, .inl g_cn_how)), (a22, .inl (cI, 46, .inl g_cn_trader)), (a0, .inr (4, [.ref a1, .ref a2, .ref a3, .ref a4, .ref a5, .ref a6, .ref a7, .int v_se_7, .int v_se_8, .int v_se_9, .int h7]))] → va_S A s.heap H locs → lv_has ls 4 [(0, .ref a0), (1, .int 1), (2, .int b2), (3, .int x5)] → W p l e ({ frames := 8, cells := 0, slots := 0, locals := 184 } : Room) s m args below meth c H locs 0 0 Qm (F0 m 39 ls []) := by
        intro n
        induction n with
        | zero => intro x5 f6 h7 H locs ls hv hm; have p_ := i_lo x5; have q_ := i_hi x5; omega
        | succ n ih =>
          intro x5 f6 h7 H locs ls hv hm hP hD hS hl
          have p_ := i_lo x5; have q_ := i_hi x5
          refine lv_iload_n hx hb dX4_layBlaming_39 rfl (lv_at hl 3 rfl) ?_
          refine lv_aload_n hx hb dX4_layBlaming_40 rfl (lv_at hl 0 rfl) ?_
          refine k_get hC hK hP iX4 12 6 wf_X4_44 rfl (by decide) rfl rfl dX4_layBlaming_41 ?_
          refine lv_iload_n hx hb dX4_layBlaming_44 rfl (lv_at hl 1 rfl) ?_
          refine t_iald hC hK hP 2 rfl (by decide) (by decide) hT_g_se_most dX4_layBlaming_45 (fun z8 tz8 => ?_)
          refine lv_icmp_gt (tgt := 76) hx hb dX4_layBlaming_46 (by decide) (fun c9 => ?_) (fun c9 => ?_)
          · have dc9 : z8.toInt < x5.toInt := (fa_lt _ _).mp c9; have lbc9_0 := i_lo z8; have ubc9_1 := i_hi x5
            rw [← hQm]
            exact k_vret hC hr hlk hK hP hD hS (h7, f6) [12, 0, 1, 2, 3, 4, 5, 6, 7, 8, 9, 10, 11] rfl (by decide +kernel) trivial (Nat.le_of_ble_eq_true rfl) (Nat.le_of_ble_eq_true rfl) dX4_layBlaming_76
          · have dc9 : x5.toInt ≤ z8.toInt := fa_nlt c9; have lbc9_0 := i_lo z8; have ubc9_1 := i_hi x5
            refine lv_aload_n hx hb dX4_layBlaming_49 rfl (lv_at hl 0 rfl) ?_
            refine k_get hC hK hP iX4 12 4 wf_X4_38 rfl (by decide) rfl rfl dX4_layBlaming_50 ?_
            refine lv_iload_n hx hb dX4_layBlaming_53 rfl (lv_at hl 1 rfl) ?_
            refine lv_iload_n hx hb dX4_layBlaming_54 rfl (lv_at hl 3 rfl) ?_
            refine t_iast hC hK hP hD hS 3 rfl (by decide) (by decide) (TA.all _) ⟨i_lo _, i_hi _⟩ dX4_layBlaming_55 (fun f10 H locs hT_f10 hP hD hS => ?_)
            have hP : va_P G cl [(a1, .inr (7, [.int v_V_0, .int v_V_1, .int v_V_2, .ref a8, .ref a9, .int v_V_5, .ref a10, .ref a11, .ref a12, .ref a13, .ref a14, .ref a15, .ref a16, .ref a17, .ref a18])), (a6, .inl (cI, 6, .inl g_se_least)), (a7, .inl (cI, 6, .inl g_se_most)), (a5, .inl (cI, 6, .inl f10)), (a4, .inl (cI, 7, .inl g_se_firstOf)), (a3, .inr (8, [.ref a19, .ref a20, .ref a21, .ref a22, .ref a23, .ref a24, .ref a25, .int v_cn_7])), (a19, .inl (cI, 46, .inl g_cn_left)), (a20, .inl (cI, 46, .inl g_cn_right)), (a21, .inl (cI, 46, .inl g_cn_year)), (a14, .inl (cI, 6, .inl g_V_worn)), (a23, .inl (cI, 46, .inl g_cn_how)), (a22, .inl (cI, 46, .inl g_cn_trader)), (a0, .inr (4, [.ref a1, .ref a2, .ref a3, .ref a4, .ref a5, .ref a6, .ref a7, .int v_se_7, .int v_se_8, .int v_se_9, .int h7]))] H := hP
            have hD : va_D A [(a1, .inr (7, [.int v_V_0, .int v_V_1, .int v_V_2, .ref a8, .ref a9, .int v_V_5, .ref a10, .ref a11, .ref a12, .ref a13, .ref a14, .ref a15, .ref a16, .ref a17, .ref a18])), (a6, .inl (cI, 6, .inl g_se_least)), (a7, .inl (cI, 6, .inl g_se_most)), (a5, .inl (cI, 6, .inl f10)), (a4, .inl (cI, 7, .inl g_se_firstOf)), (a3, .inr (8, [.ref a19, .ref a20, .ref a21, .ref a22, .ref a23, .ref a24, .ref a25, .int v_cn_7])), (a19, .inl (cI, 46, .inl g_cn_left)), (a20, .inl (cI, 46, .inl g_cn_right)), (a21, .inl (cI, 46, .inl g_cn_year)), (a14, .inl (cI, 6, .inl g_V_worn)), (a23, .inl (cI, 46, .inl g_cn_how)), (a22, .inl (cI, 46, .inl g_cn_trader)), (a0, .inr (4, [.ref a1, .ref a2, .ref a3, .ref a4, .ref a5, .ref a6, .ref a7, .int v_se_7, .int v_se_8, .int v_se_9, .int h7]))] := hD
            refine lv_aload_n hx hb dX4_layBlaming_56 rfl (lv_at hl 0 rfl) ?_
            refine lv_iload_n hx hb dX4_layBlaming_57 rfl (lv_at hl 1 rfl) ?_
            refine lv_iconst (v := 1) hx hb dX4_layBlaming_58 (by decide) ?_
            refine lv_iadd hx hb dX4_layBlaming_59 ?_
            refine k_i 2 (by decide +kernel) ?_
            refine lv_iload_n hx hb dX4_layBlaming_60 rfl (lv_at hl 2 rfl) ?_
            refine lv_aload_n hx hb dX4_layBlaming_61 rfl (lv_at hl 0 rfl) ?_
            refine lv_iload_n hx hb dX4_layBlaming_62 rfl (lv_at hl 1 rfl) ?_
            have l_l13 : (1 : Int32).toInt = 1 := rfl
            refine k_ci (wr := [(a6, .inl (cI, 6, .inl g_se_least)), (a7, .inl (cI, 6, .inl g_se_most))]) (k_rV hC hN hZ hS hA hK hP hD (c89_X4_blameAt l G cI cJ cB cZ a0 a1 a2 a3 a4 a5 a6 a7 a19 a20 a21 a22 a23 a24 a25 a8 a9 a10 a11 a12 a13 a14 a15 a16 a17 a18 1 v_se_7 v_se_8 v_se_9 h7 v_cn_7 v_V_0 v_V_1 v_V_2 v_V_5 g_se_firstOf g_cn_left g_cn_right g_cn_year f10 g_V_worn g_cn_how g_cn_trader (by omega) (by omega) hv_0 hv_1 hv_8 hv_9 hv_2 hv_3 hv_4 hv_5 hv_6 hv_7 hT_g_se_firstOf) [12, 4, 5, 6, 7, 8, 0, 3, 9, 10, 11] rfl (by decide +kernel) mi_X4_blameAt in_X4_blameAt se_X4_blameAt wm_X4_180 4 12 rfl rfl rfl hl.1 rfl rfl (Nat.le_of_ble_eq_true rfl) ⟨(Nat.le_of_ble_eq_true rfl), (Nat.le_of_ble_eq_true rfl)⟩ dX4_layBlaming_63 ⟨(Nat.le_of_ble_eq_true rfl), (Nat.le_of_ble_eq_true rfl)⟩) hP hD hS hA [12, 4, 5, 6, 7, 8, 0, 3, 9, 10, 11] [1, 2] rfl rfl (by decide +kernel) (by decide +kernel) (fun r12 u12 H locs hp hP hD hS => ?_)
            have hp : (True) := hp
            have hP : va_P G cl [(a6, .inl (cI, 6, .inl g_se_least)), (a7, .inl (cI, 6, .inl g_se_most)), (a0, .inr (4, [.ref a1, .ref a2, .ref a3, .ref a4, .ref a5, .ref a6, .ref a7, .int v_se_7, .int v_se_8, .int v_se_9, .int h7])), (a4, .inl (cI, 7, .inl g_se_firstOf)), (a3, .inr (8, [.ref a19, .ref a20, .ref a21, .ref a22, .ref a23, .ref a24, .ref a25, .int v_cn_7])), (a19, .inl (cI, 46, .inl g_cn_left)), (a20, .inl (cI, 46, .inl g_cn_right)), (a21, .inl (cI, 46, .inl g_cn_year)), (a1, .inr (7, [.int v_V_0, .int v_V_1, .int v_V_2, .ref a8, .ref a9, .int v_V_5, .ref a10, .ref a11, .ref a12, .ref a13, .ref a14, .ref a15, .ref a16, .ref a17, .ref a18])), (a5, .inl (cI, 6, .inl f10)), (a14, .inl (cI, 6, .inl g_V_worn)), (a23, .inl (cI, 46, .inl g_cn_how)), (a22, .inl (cI, 46, .inl g_cn_trader))] H := hP
            have hD : va_D A [(a6, .inl (cI, 6, .inl g_se_least)), (a7, .inl (cI, 6, .inl g_se_most)), (a0, .inr (4, [.ref a1, .ref a2, .ref a3, .ref a4, .ref a5, .ref a6, .ref a7, .int v_se_7, .int v_se_8, .int v_se_9, .int h7])), (a4, .inl (cI, 7, .inl g_se_firstOf)), (a3, .inr (8, [.ref a19, .ref a20, .ref a21, .ref a22, .ref a23, .ref a24, .ref a25, .int v_cn_7])), (a19, .inl (cI, 46, .inl g_cn_left)), (a20, .inl (cI, 46, .inl g_cn_right)), (a21, .inl (cI, 46, .inl g_cn_year)), (a1, .inr (7, [.int v_V_0, .int v_V_1, .int v_V_2, .ref a8, .ref a9, .int v_V_5, .ref a10, .ref a11, .ref a12, .ref a13, .ref a14, .ref a15, .ref a16, .ref a17, .ref a18])), (a5, .inl (cI, 6, .inl f10)), (a14, .inl (cI, 6, .inl g_V_worn)), (a23, .inl (cI, 46, .inl g_cn_how)), (a22, .inl (cI, 46, .inl g_cn_trader))] := hD
            have hq12 := hp
            refine lv_ior hx hb dX4_layBlaming_66 ?_
            refine lv_topi (fun z14 _ => ?_)
            refine k_cv (wr := []) (k_rV hC hN hZ hS hA hK hP hD (c96_X4_layBlaming l G cI cJ cB cZ a0 a1 a2 a3 a4 a5 a6 a7 a8 a9 a10 a11 a12 a13 a14 a15 a16 a17 a18 a19 a20 a21 a22 a23 a24 a25 z14 v_se_7 v_se_8 v_se_9 h7 v_V_0 v_V_1 v_V_2 v_V_5 v_cn_7 g_se_least g_se_most f10 g_se_firstOf g_cn_left g_cn_right g_cn_year g_V_worn g_cn_how g_cn_trader hv_0 hv_1 hv_2 hv_3 hv_4 hv_5 hv_6 hv_7 hv_8 hv_9 hT_g_se_least hT_g_se_most hT_g_se_firstOf) [2, 8, 0, 1, 9, 3, 4, 5, 6, 7, 10, 11, 12] rfl (by decide +kernel) mi_X4_layBlaming in_X4_layBlaming se_X4_layBlaming wm_X4_97 4 2 rfl rfl rfl hl.1 rfl rfl (Nat.le_of_ble_eq_true rfl) ⟨(Nat.le_of_ble_eq_true rfl), (Nat.le_of_ble_eq_true rfl)⟩ dX4_layBlaming_67 ⟨(Nat.le_of_ble_eq_true rfl), (Nat.le_of_ble_eq_true rfl)⟩) hP hD hS hA [2, 8, 0, 1, 9, 3, 4, 5, 6, 7, 10, 11, 12] [] rfl rfl (by decide +kernel) (by decide +kernel) (fun u15 H locs hp hP hD hS => ?_)
            obtain ⟨h16, f17⟩ := u15
            have hp : (True) := hp
            have hP : va_P G cl [(a0, .inr (4, [.ref a1, .ref a2, .ref a3, .ref a4, .ref a5, .ref a6, .ref a7, .int v_se_7, .int v_se_8, .int v_se_9, .int h16])), (a1, .inr (7, [.int v_V_0, .int v_V_1, .int v_V_2, .ref a8, .ref a9, .int v_V_5, .ref a10, .ref a11, .ref a12, .ref a13, .ref a14, .ref a15, .ref a16, .ref a17, .ref a18])), (a6, .inl (cI, 6, .inl g_se_least)), (a7, .inl (cI, 6, .inl g_se_most)), (a5, .inl (cI, 6, .inl f17)), (a4, .inl (cI, 7, .inl g_se_firstOf)), (a3, .inr (8, [.ref a19, .ref a20, .ref a21, .ref a22, .ref a23, .ref a24, .ref a25, .int v_cn_7])), (a19, .inl (cI, 46, .inl g_cn_left)), (a20, .inl (cI, 46, .inl g_cn_right)), (a21, .inl (cI, 46, .inl g_cn_year)), (a14, .inl (cI, 6, .inl g_V_worn)), (a23, .inl (cI, 46, .inl g_cn_how)), (a22, .inl (cI, 46, .inl g_cn_trader))] H := hP
            have hD : va_D A [(a0, .inr (4, [.ref a1, .ref a2, .ref a3, .ref a4, .ref a5, .ref a6, .ref a7, .int v_se_7, .int v_se_8, .int v_se_9, .int h16])), (a1, .inr (7, [.int v_V_0, .int v_V_1, .int v_V_2, .ref a8, .ref a9, .int v_V_5, .ref a10, .ref a11, .ref a12, .ref a13, .ref a14, .ref a15, .ref a16, .ref a17, .ref a18])), (a6, .inl (cI, 6, .inl g_se_least)), (a7, .inl (cI, 6, .inl g_se_most)), (a5, .inl (cI, 6, .inl f17)), (a4, .inl (cI, 7, .inl g_se_firstOf)), (a3, .inr (8, [.ref a19, .ref a20, .ref a21, .ref a22, .ref a23, .ref a24, .ref a25, .int v_cn_7])), (a19, .inl (cI, 46, .inl g_cn_left)), (a20, .inl (cI, 46, .inl g_cn_right)), (a21, .inl (cI, 46, .inl g_cn_year)), (a14, .inl (cI, 6, .inl g_V_worn)), (a23, .inl (cI, 46, .inl g_cn_how)), (a22, .inl (cI, 46, .inl g_cn_trader))] := hD
            have hq15 := hp
            obtain ⟨z18, ez18⟩ : ∃ q : Int32, q = x5 + Int32.ofInt 1 := ⟨_, rfl⟩
            have tz18 : z18.toInt = x5.toInt + 1 := by rw [ez18]; exact add_i (y := 1) (by have p_ := i_lo x5; show _ ≤ _ + (1 : Int); omega) (by have q_ := i_hi x5; show _ + (1 : Int) ≤ _; omega)
            refine lv_iinc (v := z18) (lv' := [(3, .int z18), (0, .ref a0), (1, .int 1), (2, .int b2)]) hx hb dX4_layBlaming_70 hl (k := 3) rfl ez18.symm (by decide) rfl (fun ls hl => ?_)
            refine lv_goto (tgt := 39) hx hb dX4_layBlaming_73 (by decide) ?_
            exact ih  z18 f17 h16 H locs ls (by omega) (by omega) (hP.subm [1, 2, 3, 4, 5, 6, 7, 8, 9, 10, 11, 12, 0] rfl) (hD.sub [1, 2, 3, 4, 5, 6, 7, 8, 9, 10, 11, 12, 0] (by decide +kernel) rfl) hS (lv_sub hl [1, 2, 3, 0] rfl)
      exact L_39 2147483648 z4 g_se_weight v_se_10 H locs ls (by omega) (by omega) (hP.subm [0, 1, 2, 3, 4, 5, 6, 7, 8, 9, 10, 11, 12] rfl) (hD.sub [0, 1, 2, 3, 4, 5, 6, 7, 8, 9, 10, 11, 12] (by decide +kernel) rfl) hS (lv_sub hl [1, 2, 3, 0] rfl)
  · have dc2 : r1.toInt = 0 := (fa_eq _ _).mp c2
    rw [← hQm]
    exact k_vret hC hr hlk hK hP hD hS (v_se_10, g_se_weight) [12, 0, 1, 2, 3, 4, 5, 6, 7, 8, 9, 10, 11] rfl (by decide +kernel) trivial (Nat.le_of_ble_eq_true rfl) (Nat.le_of_ble_eq_true rfl) dX4_layBlaming_8
set_option maxHeartbeats 4000000 in
set_option maxRecDepth 100000 in
theorem c98_X4_layBlaming (l : Launch) (G : va_G) (cI cJ cB cZ : ClassId) (a0 a1 a2 a3 a4 a5 a6 a7 a8 a9 a10 a11 a12 a13 a14 a15 a16 a17 a18 a19 a20 a21 a22 a23 a24 a25 : Nat) (b2 : Int32) (v_se_7 : Int32) (v_se_8 : Int32) (v_se_9 : Int32) (v_se_10 : Int32) (v_V_0 : Int32) (v_V_1 : Int32) (v_V_2 : Int32) (v_V_5 : Int32) (v_cn_7 : Int32) (g_se_least : Nat → Int32) (g_se_most : Nat → Int32) (g_se_weight : Nat → Int32) (g_se_firstOf : Nat → Int32) (g_cn_left : Nat → Int32) (g_cn_right : Nat → Int32) (g_cn_year : Nat → Int32) (g_V_worn : Nat → Int32) (g_cn_how : Nat → Int32) (g_cn_trader : Nat → Int32) (hv_0 : 0 ≤ v_se_8.toInt) (hv_1 : v_se_9.toInt ≤ 2147483646) (hv_2 : 0 ≤ v_V_0.toInt) (hv_3 : v_V_0.toInt ≤ 110) (hv_4 : 0 ≤ v_V_1.toInt) (hv_5 : v_V_1.toInt ≤ 110) (hv_6 : 0 ≤ v_V_5.toInt) (hv_7 : v_V_5.toInt ≤ 6) (hv_8 : 0 ≤ v_cn_7.toInt) (hv_9 : v_cn_7.toInt ≤ 46) (hT_g_se_least : TA 0 2147483647 g_se_least) (hT_g_se_most : TA (-2147483648) 2147483646 g_se_most) (hT_g_se_firstOf : TA 0 46 g_se_firstOf) : Con l G (TY cI cJ cB cZ) yX4_layBlaming cX4_layBlaming 4 none ({ frames := 9, cells := 0, slots := 0, locals := 207 } : Room) [.ref a0, .int 0, .int b2] [(a0, .inr (4, [.ref a1, .ref a2, .ref a3, .ref a4, .ref a5, .ref a6, .ref a7, .int v_se_7, .int v_se_8, .int v_se_9, .int v_se_10])), (a1, .inr (7, [.int v_V_0, .int v_V_1, .int v_V_2, .ref a8, .ref a9, .int v_V_5, .ref a10, .ref a11, .ref a12, .ref a13, .ref a14, .ref a15, .ref a16, .ref a17, .ref a18])), (a6, .inl (cI, 6, .inl g_se_least)), (a7, .inl (cI, 6, .inl g_se_most)), (a5, .inl (cI, 6, .inl g_se_weight)), (a4, .inl (cI, 7, .inl g_se_firstOf)), (a3, .inr (8, [.ref a19, .ref a20, .ref a21, .ref a22, .ref a23, .ref a24, .ref a25, .int v_cn_7])), (a19, .inl (cI, 46, .inl g_cn_left)), (a20, .inl (cI, 46, .inl g_cn_right)), (a21, .inl (cI, 46, .inl g_cn_year)), (a14, .inl (cI, 6, .inl g_V_worn)), (a23, .inl (cI, 46, .inl g_cn_how)), (a22, .inl (cI, 46, .inl g_cn_trader))] (QV G (TY cI cJ cB cZ) (fun u : Int32 × (Nat → Int32) => (True)) (fun u : Int32 × (Nat → Int32) => [(a0, .inr (4, [.ref a1, .ref a2, .ref a3, .ref a4, .ref a5, .ref a6, .ref a7, .int v_se_7, .int v_se_8, .int v_se_9, .int u.1])), (a1, .inr (7, [.int v_V_0, .int v_V_1, .int v_V_2, .ref a8, .ref a9, .int v_V_5, .ref a10, .ref a11, .ref a12, .ref a13, .ref a14, .ref a15, .ref a16, .ref a17, .ref a18])), (a6, .inl (cI, 6, .inl g_se_least)), (a7, .inl (cI, 6, .inl g_se_most)), (a5, .inl (cI, 6, .inl u.2)), (a4, .inl (cI, 7, .inl g_se_firstOf)), (a3, .inr (8, [.ref a19, .ref a20, .ref a21, .ref a22, .ref a23, .ref a24, .ref a25, .int v_cn_7])), (a19, .inl (cI, 46, .inl g_cn_left)), (a20, .inl (cI, 46, .inl g_cn_right)), (a21, .inl (cI, 46, .inl g_cn_year)), (a14, .inl (cI, 6, .inl g_V_worn)), (a23, .inl (cI, 46, .inl g_cn_how)), (a22, .inl (cI, 46, .inl g_cn_trader))])) := by
  refine k_met (by decide) (Nat.le_of_ble_eq_true rfl) ?_
  intro p e s m below meth c A ls hC hr hlk hnm hN hZ hK hA hP hD hS hl
  have hl : lv_has ls 4 [(0, .ref a0), (1, .int 0), (2, .int b2)] := hl
  generalize hQm : MQ below _ _ s _ _ A = Qm
  generalize (List.toArray _ : Array Value) = args at hC hQm ⊢
  obtain ⟨hx, hb, hml, hown, hts⟩ := id hC
  obtain ⟨H, hH⟩ : ∃ q, q = s.heap := ⟨_, rfl⟩
  obtain ⟨locs, hlo⟩ : ∃ q : List Loc, q = [] := ⟨_, rfl⟩
  have hP : va_P G cl [(a0, .inr (4, [.ref a1, .ref a2, .ref a3, .ref a4, .ref a5, .ref a6, .ref a7, .int v_se_7, .int v_se_8, .int v_se_9, .int v_se_10])), (a1, .inr (7, [.int v_V_0, .int v_V_1, .int v_V_2, .ref a8, .ref a9, .int v_V_5, .ref a10, .ref a11, .ref a12, .ref a13, .ref a14, .ref a15, .ref a16, .ref a17, .ref a18])), (a6, .inl (cI, 6, .inl g_se_least)), (a7, .inl (cI, 6, .inl g_se_most)), (a5, .inl (cI, 6, .inl g_se_weight)), (a4, .inl (cI, 7, .inl g_se_firstOf)), (a3, .inr (8, [.ref a19, .ref a20, .ref a21, .ref a22, .ref a23, .ref a24, .ref a25, .int v_cn_7])), (a19, .inl (cI, 46, .inl g_cn_left)), (a20, .inl (cI, 46, .inl g_cn_right)), (a21, .inl (cI, 46, .inl g_cn_year)), (a14, .inl (cI, 6, .inl g_V_worn)), (a23, .inl (cI, 46, .inl g_cn_how)), (a22, .inl (cI, 46, .inl g_cn_trader))] H := by rw [hH]; exact hP
  have hS : va_S A s.heap H locs := by rw [hH, hlo]; exact hS
  rw [← hlo]
  rw [← hH]
  refine lv_aload_n hx hb dX4_layBlaming_0 rfl (lv_at hl 0 rfl) ?_
  refine lv_iload_n hx hb dX4_layBlaming_1 rfl (lv_at hl 2 rfl) ?_
  refine k_ci (wr := [(a1, .inr (7, [.int v_V_0, .int v_V_1, .int v_V_2, .ref a8, .ref a9, .int v_V_5, .ref a10, .ref a11, .ref a12, .ref a13, .ref a14, .ref a15, .ref a16, .ref a17, .ref a18])), (a6, .inl (cI, 6, .inl g_se_least)), (a7, .inl (cI, 6, .inl g_se_most)), (a5, .inl (cI, 6, .inl g_se_weight)), (a4, .inl (cI, 7, .inl g_se_firstOf)), (a3, .inr (8, [.ref a19, .ref a20, .ref a21, .ref a22, .ref a23, .ref a24, .ref a25, .int v_cn_7])), (a19, .inl (cI, 46, .inl g_cn_left)), (a20, .inl (cI, 46, .inl g_cn_right)), (a21, .inl (cI, 46, .inl g_cn_year)), (a14, .inl (cI, 6, .inl g_V_worn)), (a23, .inl (cI, 46, .inl g_cn_how)), (a22, .inl (cI, 46, .inl g_cn_trader))]) (k_rV hC hN hZ hS hA hK hP hD (c91_X4_isBetter l G cI cJ cB cZ a0 a1 a2 a3 a4 a5 a6 a7 b2 v_se_7 v_se_8 v_se_9 v_se_10 hv_0 hv_1) [0] rfl (by decide +kernel) mi_X4_isBetter in_X4_isBetter se_X4_isBetter wm_X4_176 4 0 rfl rfl rfl hl.1 rfl rfl (Nat.le_of_ble_eq_true rfl) ⟨(Nat.le_of_ble_eq_true rfl), (Nat.le_of_ble_eq_true rfl)⟩ dX4_layBlaming_2 ⟨(Nat.le_of_ble_eq_true rfl), (Nat.le_of_ble_eq_true rfl)⟩) hP hD hS hA [0] [1, 2, 3, 4, 5, 6, 7, 8, 9, 10, 11, 12] rfl rfl (by decide +kernel) (by decide +kernel) (fun r1 u1 H locs hp hP hD hS => ?_)
  have hp : (0 ≤ r1.toInt ∧ r1.toInt ≤ 1) := hp
  have hP : va_P G cl [(a1, .inr (7, [.int v_V_0, .int v_V_1, .int v_V_2, .ref a8, .ref a9, .int v_V_5, .ref a10, .ref a11, .ref a12, .ref a13, .ref a14, .ref a15, .ref a16, .ref a17, .ref a18])), (a6, .inl (cI, 6, .inl g_se_least)), (a7, .inl (cI, 6, .inl g_se_most)), (a5, .inl (cI, 6, .inl g_se_weight)), (a4, .inl (cI, 7, .inl g_se_firstOf)), (a3, .inr (8, [.ref a19, .ref a20, .ref a21, .ref a22, .ref a23, .ref a24, .ref a25, .int v_cn_7])), (a19, .inl (cI, 46, .inl g_cn_left)), (a20, .inl (cI, 46, .inl g_cn_right)), (a21, .inl (cI, 46, .inl g_cn_year)), (a14, .inl (cI, 6, .inl g_V_worn)), (a23, .inl (cI, 46, .inl g_cn_how)), (a22, .inl (cI, 46, .inl g_cn_trader)), (a0, .inr (4, [.ref a1, .ref a2, .ref a3, .ref a4, .ref a5, .ref a6, .ref a7, .int v_se_7, .int v_se_8, .int v_se_9, .int v_se_10]))] H := hP
  have hD : va_D A [(a1, .inr (7, [.int v_V_0, .int v_V_1, .int v_V_2, .ref a8, .ref a9, .int v_V_5, .ref a10, .ref a11, .ref a12, .ref a13, .ref a14, .ref a15, .ref a16, .ref a17, .ref a18])), (a6, .inl (cI, 6, .inl g_se_least)), (a7, .inl (cI, 6, .inl g_se_most)), (a5, .inl (cI, 6, .inl g_se_weight)), (a4, .inl (cI, 7, .inl g_se_firstOf)), (a3, .inr (8, [.ref a19, .ref a20, .ref a21, .ref a22, .ref a23, .ref a24, .ref a25, .int v_cn_7])), (a19, .inl (cI, 46, .inl g_cn_left)), (a20, .inl (cI, 46, .inl g_cn_right)), (a21, .inl (cI, 46, .inl g_cn_year)), (a14, .inl (cI, 6, .inl g_V_worn)), (a23, .inl (cI, 46, .inl g_cn_how)), (a22, .inl (cI, 46, .inl g_cn_trader)), (a0, .inr (4, [.ref a1, .ref a2, .ref a3, .ref a4, .ref a5, .ref a6, .ref a7, .int v_se_7, .int v_se_8, .int v_se_9, .int v_se_10]))] := hD
  have hq1 := hp
  refine lv_if_ne (tgt := 9) hx hb dX4_layBlaming_5 (by decide) (fun c2 => ?_) (fun c2 => ?_)
  · have dc2 : r1.toInt ≠ 0 := fa_ne c2
    refine lv_iload_n hx hb dX4_layBlaming_9 rfl (lv_at hl 1 rfl) ?_
    refine lv_aload_n hx hb dX4_layBlaming_10 rfl (lv_at hl 0 rfl) ?_
    refine k_get hC hK hP iX4 12 0 wf_X4_12 rfl (by decide) rfl rfl dX4_layBlaming_11 ?_
    refine k_getN hC hN hK hP iX7 0 5 wf_X4_109 rfl (by decide) rfl rfl dX4_layBlaming_14 ?_
    refine lv_icmp_ge (tgt := 26) hx hb dX4_layBlaming_17 (by decide) (fun c3 => ?_) (fun c3 => ?_)
    · have dc3 : v_V_5.toInt ≤ 0 := (fa_le _ _).mp c3
      refine lv_aload_n hx hb dX4_layBlaming_26 rfl (lv_at hl 0 rfl) ?_
      refine lv_iload_n hx hb dX4_layBlaming_27 rfl (lv_at hl 2 rfl) ?_
      refine k_put hC hK hP hD hS iX4 tyX4_ok nmX4 12 10 wf_X4_57 rfl (by decide) rfl rfl rfl rfl (Nat.le_of_ble_eq_true rfl) dX4_layBlaming_28 (fun H locs hP hD hS => ?_)
      have hP : va_P G cl [(a1, .inr (7, [.int v_V_0, .int v_V_1, .int v_V_2, .ref a8, .ref a9, .int v_V_5, .ref a10, .ref a11, .ref a12, .ref a13, .ref a14, .ref a15, .ref a16, .ref a17, .ref a18])), (a6, .inl (cI, 6, .inl g_se_least)), (a7, .inl (cI, 6, .inl g_se_most)), (a5, .inl (cI, 6, .inl g_se_weight)), (a4, .inl (cI, 7, .inl g_se_firstOf)), (a3, .inr (8, [.ref a19, .ref a20, .ref a21, .ref a22, .ref a23, .ref a24, .ref a25, .int v_cn_7])), (a19, .inl (cI, 46, .inl g_cn_left)), (a20, .inl (cI, 46, .inl g_cn_right)), (a21, .inl (cI, 46, .inl g_cn_year)), (a14, .inl (cI, 6, .inl g_V_worn)), (a23, .inl (cI, 46, .inl g_cn_how)), (a22, .inl (cI, 46, .inl g_cn_trader)), (a0, .inr (4, [.ref a1, .ref a2, .ref a3, .ref a4, .ref a5, .ref a6, .ref a7, .int v_se_7, .int v_se_8, .int v_se_9, .int b2]))] H := hP
      have hD : va_D A [(a1, .inr (7, [.int v_V_0, .int v_V_1, .int v_V_2, .ref a8, .ref a9, .int v_V_5, .ref a10, .ref a11, .ref a12, .ref a13, .ref a14, .ref a15, .ref a16, .ref a17, .ref a18])), (a6, .inl (cI, 6, .inl g_se_least)), (a7, .inl (cI, 6, .inl g_se_most)), (a5, .inl (cI, 6, .inl g_se_weight)), (a4, .inl (cI, 7, .inl g_se_firstOf)), (a3, .inr (8, [.ref a19, .ref a20, .ref a21, .ref a22, .ref a23, .ref a24, .ref a25, .int v_cn_7])), (a19, .inl (cI, 46, .inl g_cn_left)), (a20, .inl (cI, 46, .inl g_cn_right)), (a21, .inl (cI, 46, .inl g_cn_year)), (a14, .inl (cI, 6, .inl g_V_worn)), (a23, .inl (cI, 46, .inl g_cn_how)), (a22, .inl (cI, 46, .inl g_cn_trader)), (a0, .inr (4, [.ref a1, .ref a2, .ref a3, .ref a4, .ref a5, .ref a6, .ref a7, .int v_se_7, .int v_se_8, .int v_se_9, .int b2]))] := hD
      rw [← hQm]
      exact k_vret hC hr hlk hK hP hD hS (b2, g_se_weight) [12, 0, 1, 2, 3, 4, 5, 6, 7, 8, 9, 10, 11] rfl (by decide +kernel) trivial (Nat.le_of_ble_eq_true rfl) (Nat.le_of_ble_eq_true rfl) dX4_layBlaming_31
    · have dc3 : 0 < v_V_5.toInt := fa_nle c3
      refine lv_iload_n hx hb dX4_layBlaming_20 rfl (lv_at hl 1 rfl) ?_
      refine lv_bipush (v := 6) hx hb dX4_layBlaming_21 (by decide) ?_
      refine lv_icmp_lt (tgt := 32) hx hb dX4_layBlaming_23 (by decide) (fun _ => ?_) (fun c_ => absurd (by decide +kernel) c_)
      refine lv_aload_n hx hb dX4_layBlaming_32 rfl (lv_at hl 0 rfl) ?_
      refine k_get hC hK hP iX4 12 5 wf_X4_41 rfl (by decide) rfl rfl dX4_layBlaming_33 ?_
      refine lv_iload_n hx hb dX4_layBlaming_36 rfl (lv_at hl 1 rfl) ?_
      refine t_iald hC hK hP 1 rfl (by decide) (by decide) hT_g_se_least dX4_layBlaming_37 (fun z4 tz4 => ?_)
      refine lv_istore_n (lv' := [(3, .int z4), (0, .ref a0), (1, .int 0), (2, .int b2)]) hx hb dX4_layBlaming_38 rfl hl (by decide) rfl (fun ls hl => ?_)
      have L_39 : ∀ (n : Nat) (x5 : Int32) (f6 : Nat → Int32) (h7 : Int32) (H : Heap) (locs : List Loc) (ls : Array Slot), (0 ≤ x5.toInt) → 2147483647 - x5.toInt < (n : Int) → va_P G cl [(a1, .inr (7, [.int v_V_0, .int v_V_1, .int v_V_2, .ref a8, .ref a9, .int v_V_5, .ref a10, .ref a11, .ref a12, .ref a13, .ref a14, .ref a15, .ref a16, .ref a17, .ref a18])), (a6, .inl (cI, 6, .inl g_se_least)), (a7, .inl (cI, 6, .inl g_se_most)), (a5, .inl (cI, 6, .inl f6)), (a4, .inl (cI, 7, .inl g_se_firstOf)), (a3, .inr (8, [.ref a19, .ref a20, .ref a21, .ref a22, .ref a23, .ref a24, .ref a25, .int v_cn_7])), (a19, .inl (cI, 46, .inl g_cn_left)), (a20, .inl (cI, 46, .inl g_cn_right)), (a21, .inl (cI, 46, .inl g_cn_year)), (a14, .inl (cI, 6, .inl g_V_worn)), (a23, .inl (cI, 46, .inl g_cn_how)), (a22, .inl (cI, 46, .inl g_cn_trader)), (a0, .inr (4, [.ref a1, .ref a2, .ref a3, .ref a4, .ref a5, .ref a6, .ref a7, .int v_se_7, .int v_se_8, .int v_se_9, .int h7]))] H → va_D A [(a1, .inr (7, [.int v_V_0, .int v_V_1, .int v_V_2, .ref a8, .ref a9, .int v_V_5, .ref a10, .ref a11, .ref a12, .ref a13, .ref a14, .ref a15, .ref a16, .ref a17, .ref a18])), (a6, .inl (cI, 6, .inl g_se_least)), (a7, .inl (cI, 6, .inl g_se_most)), (a5, .inl (cI, 6, .inl f6)), (a4, .inl (cI, 7, .inl g_se_firstOf)), (a3, .inr (8, [.ref a19, .ref a20, .ref a21, .ref a22, .ref a23, .ref a24, .ref a25, .int v_cn_7])), (a19, .inl (cI, 46, .inl g_cn_left)), (a20, .inl (cI, 46, .inl g_cn_right)), (a21, .inl (cI, 46, .inl g_cn_year)), (a14, .inl (cI, 6, .inl g_V_worn)), (a23, .inl (cI, 46, .inl g_cn_how)), (a22, .inl (cI, 46, .inl g_cn_trader)), (a0, .inr (4, [.ref a1, .ref a2, .ref a3, .ref a4, .ref a5, .ref a6, .ref a7, .int v_se_7, .int v_se_8, .int v_se_9, .int h7]))] → va_S A s.heap H locs → lv_has ls 4 [(0, .ref a0), (1, .int 0), (2, .int b2), (3, .int x5)] → W p l e ({ frames := 9, cells := 0, slots := 0, locals := 207 } : Room) s m args below meth c H locs 0 0 Qm (F0 m 39 ls []) := by
        intro n
        induction n with
        | zero => intro x5 f6 h7 H locs ls hv hm; have p_ := i_lo x5; have q_ := i_hi x5; omega
        | succ n ih =>
          intro x5 f6 h7 H locs ls hv hm hP hD hS hl
          have p_ := i_lo x5; have q_ := i_hi x5
          refine lv_iload_n hx hb dX4_layBlaming_39 rfl (lv_at hl 3 rfl) ?_
          refine lv_aload_n hx hb dX4_layBlaming_40 rfl (lv_at hl 0 rfl) ?_
          refine k_get hC hK hP iX4 12 6 wf_X4_44 rfl (by decide) rfl rfl dX4_layBlaming_41 ?_
          refine lv_iload_n hx hb dX4_layBlaming_44 rfl (lv_at hl 1 rfl) ?_
          refine t_iald hC hK hP 2 rfl (by decide) (by decide) hT_g_se_most dX4_layBlaming_45 (fun z8 tz8 => ?_)
          refine lv_icmp_gt (tgt := 76) hx hb dX4_layBlaming_46 (by decide) (fun c9 => ?_) (fun c9 => ?_)
          · have dc9 : z8.toInt < x5.toInt := (fa_lt _ _).mp c9; have lbc9_0 := i_lo z8; have ubc9_1 := i_hi x5
            rw [← hQm]
            exact k_vret hC hr hlk hK hP hD hS (h7, f6) [12, 0, 1, 2, 3, 4, 5, 6, 7, 8, 9, 10, 11] rfl (by decide +kernel) trivial (Nat.le_of_ble_eq_true rfl) (Nat.le_of_ble_eq_true rfl) dX4_layBlaming_76
          · have dc9 : x5.toInt ≤ z8.toInt := fa_nlt c9; have lbc9_0 := i_lo z8; have ubc9_1 := i_hi x5
            refine lv_aload_n hx hb dX4_layBlaming_49 rfl (lv_at hl 0 rfl) ?_
            refine k_get hC hK hP iX4 12 4 wf_X4_38 rfl (by decide) rfl rfl dX4_layBlaming_50 ?_
            refine lv_iload_n hx hb dX4_layBlaming_53 rfl (lv_at hl 1 rfl) ?_
            refine lv_iload_n hx hb dX4_layBlaming_54 rfl (lv_at hl 3 rfl) ?_
            refine t_iast hC hK hP hD hS 3 rfl (by decide) (by decide) (TA.all _) ⟨i_lo _, i_hi _⟩ dX4_layBlaming_55 (fun f10 H locs hT_f10 hP hD hS => ?_)
            have hP : va_P G cl [(a1, .inr (7, [.int v_V_0, .int v_V_1, .int v_V_2, .ref a8, .ref a9, .int v_V_5, .ref a10, .ref a11, .ref a12, .ref a13, .ref a14, .ref a15, .ref a16, .ref a17, .ref a18])), (a6, .inl (cI, 6, .inl g_se_least)), (a7, .inl (cI, 6, .inl g_se_most)), (a5, .inl (cI, 6, .inl f10)), (a4, .inl (cI, 7, .inl g_se_firstOf)), (a3, .inr (8, [.ref a19, .ref a20, .ref a21, .ref a22, .ref a23, .ref a24, .ref a25, .int v_cn_7])), (a19, .inl (cI, 46, .inl g_cn_left)), (a20, .inl (cI, 46, .inl g_cn_right)), (a21, .inl (cI, 46, .inl g_cn_year)), (a14, .inl (cI, 6, .inl g_V_worn)), (a23, .inl (cI, 46, .inl g_cn_how)), (a22, .inl (cI, 46, .inl g_cn_trader)), (a0, .inr (4, [.ref a1, .ref a2, .ref a3, .ref a4, .ref a5, .ref a6, .ref a7, .int v_se_7, .int v_se_8, .int v_se_9, .int h7]))] H := hP
            have hD : va_D A [(a1, .inr (7, [.int v_V_0, .int v_V_1, .int v_V_2, .ref a8, .ref a9, .int v_V_5, .ref a10, .ref a11, .ref a12, .ref a13, .ref a14, .ref a15, .ref a16, .ref a17, .ref a18])), (a6, .inl (cI, 6, .inl g_se_least)), (a7, .inl (cI, 6, .inl g_se_most)), (a5, .inl (cI, 6, .inl f10)), (a4, .inl (cI, 7, .inl g_se_firstOf)), (a3, .inr (8, [.ref a19, .ref a20, .ref a21, .ref a22, .ref a23, .ref a24, .ref a25, .int v_cn_7])), (a19, .inl (cI, 46, .inl g_cn_left)), (a20, .inl (cI, 46, .inl g_cn_right)), (a21, .inl (cI, 46, .inl g_cn_year)), (a14, .inl (cI, 6, .inl g_V_worn)), (a23, .inl (cI, 46, .inl g_cn_how)), (a22, .inl (cI, 46, .inl g_cn_trader)), (a0, .inr (4, [.ref a1, .ref a2, .ref a3, .ref a4, .ref a5, .ref a6, .ref a7, .int v_se_7, .int v_se_8, .int v_se_9, .int h7]))] := hD
            refine lv_aload_n hx hb dX4_layBlaming_56 rfl (lv_at hl 0 rfl) ?_
            refine lv_iload_n hx hb dX4_layBlaming_57 rfl (lv_at hl 1 rfl) ?_
            refine lv_iconst (v := 1) hx hb dX4_layBlaming_58 (by decide) ?_
            refine lv_iadd hx hb dX4_layBlaming_59 ?_
            refine k_i 1 (by decide +kernel) ?_
            refine lv_iload_n hx hb dX4_layBlaming_60 rfl (lv_at hl 2 rfl) ?_
            refine lv_aload_n hx hb dX4_layBlaming_61 rfl (lv_at hl 0 rfl) ?_
            refine lv_iload_n hx hb dX4_layBlaming_62 rfl (lv_at hl 1 rfl) ?_
            have l_l13 : (0 : Int32).toInt = 0 := rfl
            refine k_ci (wr := [(a6, .inl (cI, 6, .inl g_se_least)), (a7, .inl (cI, 6, .inl g_se_most))]) (k_rV hC hN hZ hS hA hK hP hD (c89_X4_blameAt l G cI cJ cB cZ a0 a1 a2 a3 a4 a5 a6 a7 a19 a20 a21 a22 a23 a24 a25 a8 a9 a10 a11 a12 a13 a14 a15 a16 a17 a18 0 v_se_7 v_se_8 v_se_9 h7 v_cn_7 v_V_0 v_V_1 v_V_2 v_V_5 g_se_firstOf g_cn_left g_cn_right g_cn_year f10 g_V_worn g_cn_how g_cn_trader (by omega) (by omega) hv_0 hv_1 hv_8 hv_9 hv_2 hv_3 hv_4 hv_5 hv_6 hv_7 hT_g_se_firstOf) [12, 4, 5, 6, 7, 8, 0, 3, 9, 10, 11] rfl (by decide +kernel) mi_X4_blameAt in_X4_blameAt se_X4_blameAt wm_X4_180 4 12 rfl rfl rfl hl.1 rfl rfl (Nat.le_of_ble_eq_true rfl) ⟨(Nat.le_of_ble_eq_true rfl), (Nat.le_of_ble_eq_true rfl)⟩ dX4_layBlaming_63 ⟨(Nat.le_of_ble_eq_true rfl), (Nat.le_of_ble_eq_true rfl)⟩) hP hD hS hA [12, 4, 5, 6, 7, 8, 0, 3, 9, 10, 11] [1, 2] rfl rfl (by decide +kernel) (by decide +kernel) (fun r12 u12 H locs hp hP hD hS => ?_)
            have hp : (True) := hp
            have hP : va_P G cl [(a6, .inl (cI, 6, .inl g_se_least)), (a7, .inl (cI, 6, .inl g_se_most)), (a0, .inr (4, [.ref a1, .ref a2, .ref a3, .ref a4, .ref a5, .ref a6, .ref a7, .int v_se_7, .int v_se_8, .int v_se_9, .int h7])), (a4, .inl (cI, 7, .inl g_se_firstOf)), (a3, .inr (8, [.ref a19, .ref a20, .ref a21, .ref a22, .ref a23, .ref a24, .ref a25, .int v_cn_7])), (a19, .inl (cI, 46, .inl g_cn_left)), (a20, .inl (cI, 46, .inl g_cn_right)), (a21, .inl (cI, 46, .inl g_cn_year)), (a1, .inr (7, [.int v_V_0, .int v_V_1, .int v_V_2, .ref a8, .ref a9, .int v_V_5, .ref a10, .ref a11, .ref a12, .ref a13, .ref a14, .ref a15, .ref a16, .ref a17, .ref a18])), (a5, .inl (cI, 6, .inl f10)), (a14, .inl (cI, 6, .inl g_V_worn)), (a23, .inl (cI, 46, .inl g_cn_how)), (a22, .inl (cI, 46, .inl g_cn_trader))] H := hP
            have hD : va_D A [(a6, .inl (cI, 6, .inl g_se_least)), (a7, .inl (cI, 6, .inl g_se_most)), (a0, .inr (4, [.ref a1, .ref a2, .ref a3, .ref a4, .ref a5, .ref a6, .ref a7, .int v_se_7, .int v_se_8, .int v_se_9, .int h7])), (a4, .inl (cI, 7, .inl g_se_firstOf)), (a3, .inr (8, [.ref a19, .ref a20, .ref a21, .ref a22, .ref a23, .ref a24, .ref a25, .int v_cn_7])), (a19, .inl (cI, 46, .inl g_cn_left)), (a20, .inl (cI, 46, .inl g_cn_right)), (a21, .inl (cI, 46, .inl g_cn_year)), (a1, .inr (7, [.int v_V_0, .int v_V_1, .int v_V_2, .ref a8, .ref a9, .int v_V_5, .ref a10, .ref a11, .ref a12, .ref a13, .ref a14, .ref a15, .ref a16, .ref a17, .ref a18])), (a5, .inl (cI, 6, .inl f10)), (a14, .inl (cI, 6, .inl g_V_worn)), (a23, .inl (cI, 46, .inl g_cn_how)), (a22, .inl (cI, 46, .inl g_cn_trader))] := hD
            have hq12 := hp
            refine lv_ior hx hb dX4_layBlaming_66 ?_
            refine lv_topi (fun z14 _ => ?_)
            refine k_cv (wr := []) (k_rV hC hN hZ hS hA hK hP hD (c97_X4_layBlaming l G cI cJ cB cZ a0 a1 a2 a3 a4 a5 a6 a7 a8 a9 a10 a11 a12 a13 a14 a15 a16 a17 a18 a19 a20 a21 a22 a23 a24 a25 z14 v_se_7 v_se_8 v_se_9 h7 v_V_0 v_V_1 v_V_2 v_V_5 v_cn_7 g_se_least g_se_most f10 g_se_firstOf g_cn_left g_cn_right g_cn_year g_V_worn g_cn_how g_cn_trader hv_0 hv_1 hv_2 hv_3 hv_4 hv_5 hv_6 hv_7 hv_8 hv_9 hT_g_se_least hT_g_se_most hT_g_se_firstOf) [2, 8, 0, 1, 9, 3, 4, 5, 6, 7, 10, 11, 12] rfl (by decide +kernel) mi_X4_layBlaming in_X4_layBlaming se_X4_layBlaming wm_X4_97 4 2 rfl rfl rfl hl.1 rfl rfl (Nat.le_of_ble_eq_true rfl) ⟨(Nat.le_of_ble_eq_true rfl), (Nat.le_of_ble_eq_true rfl)⟩ dX4_layBlaming_67 ⟨(Nat.le_of_ble_eq_true rfl), (Nat.le_of_ble_eq_true rfl)⟩) hP hD hS hA [2, 8, 0, 1, 9, 3, 4, 5, 6, 7, 10, 11, 12] [] rfl rfl (by decide +kernel) (by decide +kernel) (fun u15 H locs hp hP hD hS => ?_)
            obtain ⟨h16, f17⟩ := u15
            have hp : (True) := hp
            have hP : va_P G cl [(a0, .inr (4, [.ref a1, .ref a2, .ref a3, .ref a4, .ref a5, .ref a6, .ref a7, .int v_se_7, .int v_se_8, .int v_se_9, .int h16])), (a1, .inr (7, [.int v_V_0, .int v_V_1, .int v_V_2, .ref a8, .ref a9, .int v_V_5, .ref a10, .ref a11, .ref a12, .ref a13, .ref a14, .ref a15, .ref a16, .ref a17, .ref a18])), (a6, .inl (cI, 6, .inl g_se_least)), (a7, .inl (cI, 6, .inl g_se_most)), (a5, .inl (cI, 6, .inl f17)), (a4, .inl (cI, 7, .inl g_se_firstOf)), (a3, .inr (8, [.ref a19, .ref a20, .ref a21, .ref a22, .ref a23, .ref a24, .ref a25, .int v_cn_7])), (a19, .inl (cI, 46, .inl g_cn_left)), (a20, .inl (cI, 46, .inl g_cn_right)), (a21, .inl (cI, 46, .inl g_cn_year)), (a14, .inl (cI, 6, .inl g_V_worn)), (a23, .inl (cI, 46, .inl g_cn_how)), (a22, .inl (cI, 46, .inl g_cn_trader))] H := hP
            have hD : va_D A [(a0, .inr (4, [.ref a1, .ref a2, .ref a3, .ref a4, .ref a5, .ref a6, .ref a7, .int v_se_7, .int v_se_8, .int v_se_9, .int h16])), (a1, .inr (7, [.int v_V_0, .int v_V_1, .int v_V_2, .ref a8, .ref a9, .int v_V_5, .ref a10, .ref a11, .ref a12, .ref a13, .ref a14, .ref a15, .ref a16, .ref a17, .ref a18])), (a6, .inl (cI, 6, .inl g_se_least)), (a7, .inl (cI, 6, .inl g_se_most)), (a5, .inl (cI, 6, .inl f17)), (a4, .inl (cI, 7, .inl g_se_firstOf)), (a3, .inr (8, [.ref a19, .ref a20, .ref a21, .ref a22, .ref a23, .ref a24, .ref a25, .int v_cn_7])), (a19, .inl (cI, 46, .inl g_cn_left)), (a20, .inl (cI, 46, .inl g_cn_right)), (a21, .inl (cI, 46, .inl g_cn_year)), (a14, .inl (cI, 6, .inl g_V_worn)), (a23, .inl (cI, 46, .inl g_cn_how)), (a22, .inl (cI, 46, .inl g_cn_trader))] := hD
            have hq15 := hp
            obtain ⟨z18, ez18⟩ : ∃ q : Int32, q = x5 + Int32.ofInt 1 := ⟨_, rfl⟩
            have tz18 : z18.toInt = x5.toInt + 1 := by rw [ez18]; exact add_i (y := 1) (by have p_ := i_lo x5; show _ ≤ _ + (1 : Int); omega) (by have q_ := i_hi x5; show _ + (1 : Int) ≤ _; omega)
            refine lv_iinc (v := z18) (lv' := [(3, .int z18), (0, .ref a0), (1, .int 0), (2, .int b2)]) hx hb dX4_layBlaming_70 hl (k := 3) rfl ez18.symm (by decide) rfl (fun ls hl => ?_)
            refine lv_goto (tgt := 39) hx hb dX4_layBlaming_73 (by decide) ?_
            exact ih  z18 f17 h16 H locs ls (by omega) (by omega) (hP.subm [1, 2, 3, 4, 5, 6, 7, 8, 9, 10, 11, 12, 0] rfl) (hD.sub [1, 2, 3, 4, 5, 6, 7, 8, 9, 10, 11, 12, 0] (by decide +kernel) rfl) hS (lv_sub hl [1, 2, 3, 0] rfl)
      exact L_39 2147483648 z4 g_se_weight v_se_10 H locs ls (by omega) (by omega) (hP.subm [0, 1, 2, 3, 4, 5, 6, 7, 8, 9, 10, 11, 12] rfl) (hD.sub [0, 1, 2, 3, 4, 5, 6, 7, 8, 9, 10, 11, 12] (by decide +kernel) rfl) hS (lv_sub hl [1, 2, 3, 0] rfl)
  · have dc2 : r1.toInt = 0 := (fa_eq _ _).mp c2
    rw [← hQm]
    exact k_vret hC hr hlk hK hP hD hS (v_se_10, g_se_weight) [12, 0, 1, 2, 3, 4, 5, 6, 7, 8, 9, 10, 11] rfl (by decide +kernel) trivial (Nat.le_of_ble_eq_true rfl) (Nat.le_of_ble_eq_true rfl) dX4_layBlaming_8

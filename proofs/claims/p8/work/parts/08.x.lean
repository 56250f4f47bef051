theorem dJ7_fill_53178_0 : decode cJ7_fill_53178 0 = .ok (.iconst 0, 1) := by decide +kernel
theorem dJ7_fill_53178_1 : decode cJ7_fill_53178 1 = .ok (.istore_n 2, 1) := by decide +kernel
theorem dJ7_fill_53178_2 : decode cJ7_fill_53178 2 = .ok (.aload_n 0, 1) := by decide +kernel
theorem dJ7_fill_53178_3 : decode cJ7_fill_53178 3 = .ok (.arraylength, 1) := by decide +kernel
theorem dJ7_fill_53178_4 : decode cJ7_fill_53178 4 = .ok (.istore_n 3, 1) := by decide +kernel
theorem dJ7_fill_53178_5 : decode cJ7_fill_53178 5 = .ok (.iload_n 2, 1) := by decide +kernel
theorem dJ7_fill_53178_6 : decode cJ7_fill_53178 6 = .ok (.iload_n 3, 1) := by decide +kernel
theorem dJ7_fill_53178_7 : decode cJ7_fill_53178 7 = .ok (.if_icmp .ge 13, 3) := by decide +kernel
theorem dJ7_fill_53178_20 : decode cJ7_fill_53178 20 = .ok (.return_, 1) := by decide +kernel
theorem dJ7_fill_53178_10 : decode cJ7_fill_53178 10 = .ok (.aload_n 0, 1) := by decide +kernel
theorem dJ7_fill_53178_11 : decode cJ7_fill_53178 11 = .ok (.iload_n 2, 1) := by decide +kernel
theorem dJ7_fill_53178_12 : decode cJ7_fill_53178 12 = .ok (.iload_n 1, 1) := by decide +kernel
theorem dJ7_fill_53178_13 : decode cJ7_fill_53178 13 = .ok (.iastore, 1) := by decide +kernel
theorem dJ7_fill_53178_14 : decode cJ7_fill_53178 14 = .ok (.iinc 2 1, 3) := by decide +kernel
theorem dJ7_fill_53178_17 : decode cJ7_fill_53178 17 = .ok (.goto (-12), 3) := by decide +kernel
set_option maxHeartbeats 4000000 in
set_option maxRecDepth 100000 in
theorem c23_J7_fill_53178 (l : Launch) (G : va_G) (cI cJ cB cZ : ClassId) (a0 : Nat) (g_M_poundLow : Nat → Int32) (hT_g_M_poundLow : TA 0 40 g_M_poundLow) : Con l G (TY cI cJ cB cZ) yJ7_fill_53178 cJ7_fill_53178 4 none ({ frames := 0, cells := 0, slots := 0, locals := 0 } : Room) [.ref a0, .int 16] [(a0, .inl (cI, 2, .inl g_M_poundLow))] (QV G (TY cI cJ cB cZ) (fun u : (Nat → Int32) => (True) ∧ TA 0 40 u) (fun u : (Nat → Int32) => [(a0, .inl (cI, 2, .inl u))])) := by
  refine k_met (by decide) (Nat.le_of_ble_eq_true rfl) ?_
  intro p e s m below meth c A ls hC hr hlk hnm hN hZ hK hA hP hD hS hl
  have hl : lv_has ls 4 [(0, .ref a0), (1, .int 16)] := hl
  generalize hQm : MQ below _ _ s _ _ A = Qm
  generalize (List.toArray _ : Array Value) = args at hC hQm ⊢
  obtain ⟨hx, hb, hml, hown, hts⟩ := id hC
  obtain ⟨H, hH⟩ : ∃ q, q = s.heap := ⟨_, rfl⟩
  obtain ⟨locs, hlo⟩ : ∃ q : List Loc, q = [] := ⟨_, rfl⟩
  have hP : va_P G cl [(a0, .inl (cI, 2, .inl g_M_poundLow))] H := by rw [hH]; exact hP
  have hS : va_S A s.heap H locs := by rw [hH, hlo]; exact hS
  rw [← hlo]
  rw [← hH]
  refine lv_iconst (v := 0) hx hb dJ7_fill_53178_0 (by decide) ?_
  refine lv_istore_n (lv' := [(2, .int 0), (0, .ref a0), (1, .int 16)]) hx hb dJ7_fill_53178_1 rfl hl (by decide) rfl (fun ls hl => ?_)
  refine lv_aload_n hx hb dJ7_fill_53178_2 rfl (lv_at hl 1 rfl) ?_
  refine k_alen hC hK hP 0 0 2 rfl rfl rfl dJ7_fill_53178_3 ?_
  refine lv_istore_n (lv' := [(3, .int 2), (2, .int 0), (0, .ref a0), (1, .int 16)]) hx hb dJ7_fill_53178_4 rfl hl (by decide) rfl (fun ls hl => ?_)
  have L_5 : ∀ (n : Nat) (x1 : Int32) (f2 : Nat → Int32) (H : Heap) (locs : List Loc) (ls : Array Slot), (0 ≤ x1.toInt ∧ x1.toInt ≤ 2) → 2 - x1.toInt < (n : Int) → TA 0 40 f2 → va_P G cl [(a0, .inl (cI, 2, .inl f2))] H → va_D A [(a0, .inl (cI, 2, .inl f2))] → va_S A s.heap H locs → lv_has ls 4 [(0, .ref a0), (1, .int 16), (2, .int x1), (3, .int 2)] → W p l e ({ frames := 0, cells := 0, slots := 0, locals := 0 } : Room) s m args below meth c H locs 0 0 Qm (F0 m 5 ls []) := by
    intro n
    induction n with
    | zero => intro x1 f2 H locs ls hv hm; omega
    | succ n ih =>
      intro x1 f2 H locs ls hv hm hT_f2 hP hD hS hl
      refine lv_iload_n hx hb dJ7_fill_53178_5 rfl (lv_at hl 2 rfl) ?_
      refine lv_iload_n hx hb dJ7_fill_53178_6 rfl (lv_at hl 3 rfl) ?_
      refine lv_icmp_ge (tgt := 20) hx hb dJ7_fill_53178_7 (by decide) (fun c3 => ?_) (fun c3 => ?_)
      · have dc3 : 2 ≤ x1.toInt := (fa_le _ _).mp c3
        rw [← hQm]
        exact k_vret hC hr hlk hK hP hD hS f2 [0] rfl (by decide +kernel) ⟨trivial, hT_f2⟩ (Nat.le_of_ble_eq_true rfl) (Nat.le_of_ble_eq_true rfl) dJ7_fill_53178_20
      · have dc3 : x1.toInt < 2 := fa_nle c3
        refine lv_aload_n hx hb dJ7_fill_53178_10 rfl (lv_at hl 0 rfl) ?_
        refine lv_iload_n hx hb dJ7_fill_53178_11 rfl (lv_at hl 2 rfl) ?_
        refine lv_iload_n hx hb dJ7_fill_53178_12 rfl (lv_at hl 1 rfl) ?_
        refine t_iast hC hK hP hD hS 0 rfl (by omega) (by omega) hT_f2 (by decide) dJ7_fill_53178_13 (fun f4 H locs hT_f4 hP hD hS => ?_)
        have hP : va_P G cl [(a0, .inl (cI, 2, .inl f4))] H := hP
        have hD : va_D A [(a0, .inl (cI, 2, .inl f4))] := hD
        obtain ⟨z5, ez5⟩ : ∃ q : Int32, q = x1 + Int32.ofInt 1 := ⟨_, rfl⟩
        have tz5 : z5.toInt = x1.toInt + 1 := by rw [ez5]; exact add_i (y := 1) (by have p_ := i_lo x1; show _ ≤ _ + (1 : Int); omega) (by have q_ := i_hi x1; show _ + (1 : Int) ≤ _; omega)
        refine lv_iinc (v := z5) (lv' := [(2, .int z5), (0, .ref a0), (1, .int 16), (3, .int 2)]) hx hb dJ7_fill_53178_14 hl (k := 2) rfl ez5.symm (by decide) rfl (fun ls hl => ?_)
        refine lv_goto (tgt := 5) hx hb dJ7_fill_53178_17 (by decide) ?_
        exact ih  z5 f4 H locs ls (by omega) (by omega) hT_f4 (hP.subm [0] rfl) (hD.sub [0] (by decide +kernel) rfl) hS (lv_sub hl [1, 2, 0, 3] rfl)
  have l_l6 : (0 : Int32).toInt = 0 := rfl
  exact L_5 3 0 g_M_poundLow H locs ls (by omega) (by omega) hT_g_M_poundLow (hP.subm [0] rfl) (hD.sub [0] (by decide +kernel) rfl) hS (lv_sub hl [2, 3, 1, 0] rfl)
theorem dX7_makeEmpty_0 : decode cX7_makeEmpty 0 = .ok (.aload_n 0, 1) := by decide +kernel
theorem dX7_makeEmpty_1 : decode cX7_makeEmpty 1 = .ok (.bipush 100, 2) := by decide +kernel
theorem dX7_makeEmpty_3 : decode cX7_makeEmpty 3 = .ok (.putfield 59, 3) := by decide +kernel
set_option maxRecDepth 100000 in
theorem wf_X7_59 : Cond.fieldLink RX7 59 "StoneTrust$Village" "armLow" "I" ∈ gw := gm (List.mem_of_getElem? (i := 223) (by decide +kernel)) rfl
theorem dX7_makeEmpty_6 : decode cX7_makeEmpty 6 = .ok (.aload_n 0, 1) := by decide +kernel
theorem dX7_makeEmpty_7 : decode cX7_makeEmpty 7 = .ok (.bipush 100, 2) := by decide +kernel
theorem dX7_makeEmpty_9 : decode cX7_makeEmpty 9 = .ok (.putfield 63, 3) := by decide +kernel
set_option maxRecDepth 100000 in
theorem wf_X7_63 : Cond.fieldLink RX7 63 "StoneTrust$Village" "armHigh" "I" ∈ gw := gm (List.mem_of_getElem? (i := 226) (by decide +kernel)) rfl
theorem dX7_makeEmpty_12 : decode cX7_makeEmpty 12 = .ok (.aload_n 0, 1) := by decide +kernel
theorem dX7_makeEmpty_13 : decode cX7_makeEmpty 13 = .ok (.iconst 0, 1) := by decide +kernel
theorem dX7_makeEmpty_14 : decode cX7_makeEmpty 14 = .ok (.putfield 66, 3) := by decide +kernel
set_option maxRecDepth 100000 in
theorem wf_X7_66 : Cond.fieldLink RX7 66 "StoneTrust$Village" "feel" "I" ∈ gw := gm (List.mem_of_getElem? (i := 229) (by decide +kernel)) rfl
theorem dX7_makeEmpty_17 : decode cX7_makeEmpty 17 = .ok (.aload_n 0, 1) := by decide +kernel
theorem dX7_makeEmpty_18 : decode cX7_makeEmpty 18 = .ok (.getfield 9, 3) := by decide +kernel
set_option maxRecDepth 100000 in
theorem wf_X7_9 : Cond.fieldLink RX7 9 "StoneTrust$Village" "poundLow" "[I" ∈ gw := gm (List.mem_of_getElem? (i := 232) (by decide +kernel)) rfl
theorem dX7_makeEmpty_21 : decode cX7_makeEmpty 21 = .ok (.bipush 16, 2) := by decide +kernel
theorem dX7_makeEmpty_23 : decode cX7_makeEmpty 23 = .ok (.invokestatic 69, 3) := by decide +kernel
set_option maxRecDepth 100000 in
theorem wm_X7_69 : Cond.methodLink RX7 69 yJ7_fill_53178 ∈ gw := gm (List.mem_of_getElem? (i := 220) (by decide +kernel)) rfl
set_option maxRecDepth 100000 in
theorem mi_J7_fill_53178 : MI yJ7_fill_53178 cJ7_fill_53178 4 none 2 := ⟨gm (List.mem_of_getElem? (i := 222) rfl) rfl, gm (List.mem_of_getElem? (i := 117) (by decide +kernel)) rfl, by decide, by decide, by decide +kernel⟩
set_option maxRecDepth 100000 in
theorem st_J7_fill_53178 : Cond.static yJ7_fill_53178 ∈ gw := gm (List.mem_of_getElem? (i := 221) (by decide +kernel)) rfl
theorem dX7_makeEmpty_26 : decode cX7_makeEmpty 26 = .ok (.aload_n 0, 1) := by decide +kernel
theorem dX7_makeEmpty_27 : decode cX7_makeEmpty 27 = .ok (.getfield 15, 3) := by decide +kernel
set_option maxRecDepth 100000 in
theorem wf_X7_15 : Cond.fieldLink RX7 15 "StoneTrust$Village" "poundHigh" "[I" ∈ gw := gm (List.mem_of_getElem? (i := 235) (by decide +kernel)) rfl
theorem dX7_makeEmpty_30 : decode cX7_makeEmpty 30 = .ok (.bipush 16, 2) := by decide +kernel
theorem dX7_makeEmpty_32 : decode cX7_makeEmpty 32 = .ok (.invokestatic 69, 3) := by decide +kernel
theorem dX7_makeEmpty_35 : decode cX7_makeEmpty 35 = .ok (.aload_n 0, 1) := by decide +kernel
theorem dX7_makeEmpty_36 : decode cX7_makeEmpty 36 = .ok (.iconst 0, 1) := by decide +kernel
theorem dX7_makeEmpty_37 : decode cX7_makeEmpty 37 = .ok (.putfield 75, 3) := by decide +kernel
set_option maxRecDepth 100000 in
theorem wf_X7_75 : Cond.fieldLink RX7 75 "StoneTrust$Village" "stones" "I" ∈ gw := gm (List.mem_of_getElem? (i := 238) (by decide +kernel)) rfl
theorem dX7_makeEmpty_40 : decode cX7_makeEmpty 40 = .ok (.aload_n 0, 1) := by decide +kernel
theorem dX7_makeEmpty_41 : decode cX7_makeEmpty 41 = .ok (.getfield 45, 3) := by decide +kernel
set_option maxRecDepth 100000 in
theorem wf_X7_45 : Cond.fieldLink RX7 45 "StoneTrust$Village" "weighings" "LStoneTrust$Weighings;" ∈ gw := gm (List.mem_of_getElem? (i := 259) (by decide +kernel)) rfl
theorem dX7_makeEmpty_44 : decode cX7_makeEmpty 44 = .ok (.iconst 0, 1) := by decide +kernel
theorem dX7_makeEmpty_45 : decode cX7_makeEmpty 45 = .ok (.putfield 78, 3) := by decide +kernel
set_option maxRecDepth 100000 in
theorem wf_X7_78 : Cond.fieldLinkNest RX7 78 "StoneTrust$Weighings" "size" "I" "StoneTrust" ∈ nests := nm_ (List.mem_of_getElem? (i := 165) (by decide +kernel)) rfl
theorem dX7_makeEmpty_48 : decode cX7_makeEmpty 48 = .ok (.aload_n 0, 1) := by decide +kernel
theorem dX7_makeEmpty_49 : decode cX7_makeEmpty 49 = .ok (.getfield 52, 3) := by decide +kernel
set_option maxRecDepth 100000 in
theorem wf_X7_52 : Cond.fieldLink RX7 52 "StoneTrust$Village" "sales" "LStoneTrust$Sales;" ∈ gw := gm (List.mem_of_getElem? (i := 263) (by decide +kernel)) rfl
theorem dX7_makeEmpty_52 : decode cX7_makeEmpty 52 = .ok (.iconst 0, 1) := by decide +kernel
theorem dX7_makeEmpty_53 : decode cX7_makeEmpty 53 = .ok (.putfield 81, 3) := by decide +kernel
set_option maxRecDepth 100000 in
theorem wf_X7_81 : Cond.fieldLinkNest RX7 81 "StoneTrust$Sales" "size" "I" "StoneTrust" ∈ nests := nm_ (List.mem_of_getElem? (i := 202) (by decide +kernel)) rfl
theorem dX7_makeEmpty_56 : decode cX7_makeEmpty 56 = .ok (.return_, 1) := by decide +kernel
set_option maxHeartbeats 4000000 in
set_option maxRecDepth 100000 in
theorem c24_X7_makeEmpty (l : Launch) (G : va_G) (cI cJ cB cZ : ClassId) (a0 a1 a2 a3 a4 a5 a6 a7 a8 a9 a10 a11 a12 a13 a14 a15 a16 a17 a18 a19 a20 a21 a22 : Nat) (v_M_0 : Int32) (v_M_1 : Int32) (v_M_2 : Int32) (v_M_5 : Int32) (v_Mw_7 : Int32) (v_Ms_4 : Int32) (g_M_poundLow : Nat → Int32) (g_M_poundHigh : Nat → Int32) (hv_0 : 0 ≤ v_M_0.toInt) (hv_1 : v_M_0.toInt ≤ 110) (hv_2 : 0 ≤ v_M_1.toInt) (hv_3 : v_M_1.toInt ≤ 110) (hv_4 : 0 ≤ v_M_5.toInt) (hv_5 : v_M_5.toInt ≤ 6) (hv_6 : 0 ≤ v_Mw_7.toInt) (hv_7 : v_Mw_7.toInt ≤ 16) (hv_8 : 0 ≤ v_Ms_4.toInt) (hv_9 : v_Ms_4.toInt ≤ 10) (hT_g_M_poundLow : TA 0 40 g_M_poundLow) (hT_g_M_poundHigh : TA 0 40 g_M_poundHigh) : Con l G (TY cI cJ cB cZ) yX7_makeEmpty cX7_makeEmpty 1 none ({ frames := 1, cells := 0, slots := 0, locals := 23 } : Room) [.ref a0] [(a0, .inr (7, [.int v_M_0, .int v_M_1, .int v_M_2, .ref a1, .ref a2, .int v_M_5, .ref a3, .ref a4, .ref a5, .ref a6, .ref a7, .ref a8, .ref a9, .ref a10, .ref a11])), (a1, .inl (cI, 2, .inl g_M_poundLow)), (a2, .inl (cI, 2, .inl g_M_poundHigh)), (a10, .inr (8, [.ref a12, .ref a13, .ref a14, .ref a15, .ref a16, .ref a17, .ref a18, .int v_Mw_7])), (a11, .inr (3, [.ref a19, .ref a20, .ref a21, .ref a22, .int v_Ms_4]))] (QV G (TY cI cJ cB cZ) (fun u : Int32 × Int32 × Int32 × Int32 × Int32 × Int32 × (Nat → Int32) × (Nat → Int32) => (100 ≤ u.1.toInt ∧ u.1.toInt ≤ 100 ∧ 100 ≤ u.2.1.toInt ∧ u.2.1.toInt ≤ 100 ∧ 0 ≤ u.2.2.1.toInt ∧ u.2.2.1.toInt ≤ 0 ∧ 0 ≤ u.2.2.2.1.toInt ∧ u.2.2.2.1.toInt ≤ 0 ∧ 0 ≤ u.2.2.2.2.1.toInt ∧ u.2.2.2.2.1.toInt ≤ 0 ∧ 0 ≤ u.2.2.2.2.2.1.toInt ∧ u.2.2.2.2.2.1.toInt ≤ 0) ∧ TA 0 40 u.2.2.2.2.2.2.1 ∧ TA 0 40 u.2.2.2.2.2.2.2) (fun u : Int32 × Int32 × Int32 × Int32 × Int32 × Int32 × (Nat → Int32) × (Nat → Int32) => [(a0, .inr (7, [.int u.1, .int u.2.1, .int u.2.2.1, .ref a1, .ref a2, .int u.2.2.2.1, .ref a3, .ref a4, .ref a5, .ref a6, .ref a7, .ref a8, .ref a9, .ref a10, .ref a11])), (a1, .inl (cI, 2, .inl u.2.2.2.2.2.2.1)), (a2, .inl (cI, 2, .inl u.2.2.2.2.2.2.2)), (a10, .inr (8, [.ref a12, .ref a13, .ref a14, .ref a15, .ref a16, .ref a17, .ref a18, .int u.2.2.2.2.1])), (a11, .inr (3, [.ref a19, .ref a20, .ref a21, .ref a22, .int u.2.2.2.2.2.1]))])) := by
  refine k_met (by decide) (Nat.le_of_ble_eq_true rfl) ?_
  intro p e s m below meth c A ls hC hr hlk hnm hN hZ hK hA hP hD hS hl
  have hl : lv_has ls 1 [(0, .ref a0)] := hl
  generalize hQm : MQ below _ _ s _ _ A = Qm
  generalize (List.toArray _ : Array Value) = args at hC hQm ⊢
  obtain ⟨hx, hb, hml, hown, hts⟩ := id hC
  obtain ⟨H, hH⟩ : ∃ q, q = s.heap := ⟨_, rfl⟩
  obtain ⟨locs, hlo⟩ : ∃ q : List Loc, q = [] := ⟨_, rfl⟩
  have hP : va_P G cl [(a0, .inr (7, [.int v_M_0, .int v_M_1, .int v_M_2, .ref a1, .ref a2, .int v_M_5, .ref a3, .ref a4, .ref a5, .ref a6, .ref a7, .ref a8, .ref a9, .ref a10, .ref a11])), (a1, .inl (cI, 2, .inl g_M_poundLow)), (a2, .inl (cI, 2, .inl g_M_poundHigh)), (a10, .inr (8, [.ref a12, .ref a13, .ref a14, .ref a15, .ref a16, .ref a17, .ref a18, .int v_Mw_7])), (a11, .inr (3, [.ref a19, .ref a20, .ref a21, .ref a22, .int v_Ms_4]))] H := by rw [hH]; exact hP
  have hS : va_S A s.heap H locs := by rw [hH, hlo]; exact hS
  rw [← hlo]
  rw [← hH]
  refine lv_aload_n hx hb dX7_makeEmpty_0 rfl (lv_at hl 0 rfl) ?_
  refine lv_bipush (v := 100) hx hb dX7_makeEmpty_1 (by decide) ?_
  refine k_put hC hK hP hD hS iX7 tyX7_ok nmX7 0 0 wf_X7_59 rfl (by decide) rfl rfl rfl rfl (Nat.le_of_ble_eq_true rfl) dX7_makeEmpty_3 (fun H locs hP hD hS => ?_)
  have hP : va_P G cl [(a0, .inr (7, [.int 100, .int v_M_1, .int v_M_2, .ref a1, .ref a2, .int v_M_5, .ref a3, .ref a4, .ref a5, .ref a6, .ref a7, .ref a8, .ref a9, .ref a10, .ref a11])), (a1, .inl (cI, 2, .inl g_M_poundLow)), (a2, .inl (cI, 2, .inl g_M_poundHigh)), (a10, .inr (8, [.ref a12, .ref a13, .ref a14, .ref a15, .ref a16, .ref a17, .ref a18, .int v_Mw_7])), (a11, .inr (3, [.ref a19, .ref a20, .ref a21, .ref a22, .int v_Ms_4]))] H := hP
  have hD : va_D A [(a0, .inr (7, [.int 100, .int v_M_1, .int v_M_2, .ref a1, .ref a2, .int v_M_5, .ref a3, .ref a4, .ref a5, .ref a6, .ref a7, .ref a8, .ref a9, .ref a10, .ref a11])), (a1, .inl (cI, 2, .inl g_M_poundLow)), (a2, .inl (cI, 2, .inl g_M_poundHigh)), (a10, .inr (8, [.ref a12, .ref a13, .ref a14, .ref a15, .ref a16, .ref a17, .ref a18, .int v_Mw_7])), (a11, .inr (3, [.ref a19, .ref a20, .ref a21, .ref a22, .int v_Ms_4]))] := hD
  refine lv_aload_n hx hb dX7_makeEmpty_6 rfl (lv_at hl 0 rfl) ?_
  refine lv_bipush (v := 100) hx hb dX7_makeEmpty_7 (by decide) ?_
  refine k_put hC hK hP hD hS iX7 tyX7_ok nmX7 0 1 wf_X7_63 rfl (by decide) rfl rfl rfl rfl (Nat.le_of_ble_eq_true rfl) dX7_makeEmpty_9 (fun H locs hP hD hS => ?_)
  have hP : va_P G cl [(a0, .inr (7, [.int 100, .int 100, .int v_M_2, .ref a1, .ref a2, .int v_M_5, .ref a3, .ref a4, .ref a5, .ref a6, .ref a7, .ref a8, .ref a9, .ref a10, .ref a11])), (a1, .inl (cI, 2, .inl g_M_poundLow)), (a2, .inl (cI, 2, .inl g_M_poundHigh)), (a10, .inr (8, [.ref a12, .ref a13, .ref a14, .ref a15, .ref a16, .ref a17, .ref a18, .int v_Mw_7])), (a11, .inr (3, [.ref a19, .ref a20, .ref a21, .ref a22, .int v_Ms_4]))] H := hP
  have hD : va_D A [(a0, .inr (7, [.int 100, .int 100, .int v_M_2, .ref a1, .ref a2, .int v_M_5, .ref a3, .ref a4, .ref a5, .ref a6, .ref a7, .ref a8, .ref a9, .ref a10, .ref a11])), (a1, .inl (cI, 2, .inl g_M_poundLow)), (a2, .inl (cI, 2, .inl g_M_poundHigh)), (a10, .inr (8, [.ref a12, .ref a13, .ref a14, .ref a15, .ref a16, .ref a17, .ref a18, .int v_Mw_7])), (a11, .inr (3, [.ref a19, .ref a20, .ref a21, .ref a22, .int v_Ms_4]))] := hD
  refine lv_aload_n hx hb dX7_makeEmpty_12 rfl (lv_at hl 0 rfl) ?_
  refine lv_iconst (v := 0) hx hb dX7_makeEmpty_13 (by decide) ?_
  refine k_put hC hK hP hD hS iX7 tyX7_ok nmX7 0 2 wf_X7_66 rfl (by decide) rfl rfl rfl rfl (Nat.le_of_ble_eq_true rfl) dX7_makeEmpty_14 (fun H locs hP hD hS => ?_)
  have hP : va_P G cl [(a0, .inr (7, [.int 100, .int 100, .int 0, .ref a1, .ref a2, .int v_M_5, .ref a3, .ref a4, .ref a5, .ref a6, .ref a7, .ref a8, .ref a9, .ref a10, .ref a11])), (a1, .inl (cI, 2, .inl g_M_poundLow)), (a2, .inl (cI, 2, .inl g_M_poundHigh)), (a10, .inr (8, [.ref a12, .ref a13, .ref a14, .ref a15, .ref a16, .ref a17, .ref a18, .int v_Mw_7])), (a11, .inr (3, [.ref a19, .ref a20, .ref a21, .ref a22, .int v_Ms_4]))] H := hP
  have hD : va_D A [(a0, .inr (7, [.int 100, .int 100, .int 0, .ref a1, .ref a2, .int v_M_5, .ref a3, .ref a4, .ref a5, .ref a6, .ref a7, .ref a8, .ref a9, .ref a10, .ref a11])), (a1, .inl (cI, 2, .inl g_M_poundLow)), (a2, .inl (cI, 2, .inl g_M_poundHigh)), (a10, .inr (8, [.ref a12, .ref a13, .ref a14, .ref a15, .ref a16, .ref a17, .ref a18, .int v_Mw_7])), (a11, .inr (3, [.ref a19, .ref a20, .ref a21, .ref a22, .int v_Ms_4]))] := hD
  refine lv_aload_n hx hb dX7_makeEmpty_17 rfl (lv_at hl 0 rfl) ?_
  refine k_get hC hK hP iX7 0 3 wf_X7_9 rfl (by decide) rfl rfl dX7_makeEmpty_18 ?_
  refine lv_bipush (v := 16) hx hb dX7_makeEmpty_21 (by decide) ?_
  refine k_cv (wr := [(a0, .inr (7, [.int 100, .int 100, .int 0, .ref a1, .ref a2, .int v_M_5, .ref a3, .ref a4, .ref a5, .ref a6, .ref a7, .ref a8, .ref a9, .ref a10, .ref a11])), (a2, .inl (cI, 2, .inl g_M_poundHigh)), (a10, .inr (8, [.ref a12, .ref a13, .ref a14, .ref a15, .ref a16, .ref a17, .ref a18, .int v_Mw_7])), (a11, .inr (3, [.ref a19, .ref a20, .ref a21, .ref a22, .int v_Ms_4]))]) (k_rS hC hN hZ hS hA hK hP hD (c23_J7_fill_53178 l G cI cJ cB cZ a1 g_M_poundLow hT_g_M_poundLow) [1] rfl (by decide +kernel) mi_J7_fill_53178 st_J7_fill_53178 wm_X7_69 hl.1 rfl rfl (Nat.le_of_ble_eq_true rfl) ⟨(Nat.le_of_ble_eq_true rfl), (Nat.le_of_ble_eq_true rfl)⟩ dX7_makeEmpty_23 ⟨(Nat.le_of_ble_eq_true rfl), (Nat.le_of_ble_eq_true rfl)⟩) hP hD hS hA [1] [0, 2, 3, 4] rfl rfl (by decide +kernel) (by decide +kernel) (fun u1 H locs hp hP hD hS => ?_)
  obtain ⟨f2, ef2⟩ : ∃ q, q = u1 := ⟨_, rfl⟩
  subst ef2
  obtain ⟨hp, hT_f2⟩ : (True) ∧ TA 0 40 f2 := hp
  have hP : va_P G cl [(a0, .inr (7, [.int 100, .int 100, .int 0, .ref a1, .ref a2, .int v_M_5, .ref a3, .ref a4, .ref a5, .ref a6, .ref a7, .ref a8, .ref a9, .ref a10, .ref a11])), (a2, .inl (cI, 2, .inl g_M_poundHigh)), (a10, .inr (8, [.ref a12, .ref a13, .ref a14, .ref a15, .ref a16, .ref a17, .ref a18, .int v_Mw_7])), (a11, .inr (3, [.ref a19, .ref a20, .ref a21, .ref a22, .int v_Ms_4])), (a1, .inl (cI, 2, .inl f2))] H := hP
  have hD : va_D A [(a0, .inr (7, [.int 100, .int 100, .int 0, .ref a1, .ref a2, .int v_M_5, .ref a3, .ref a4, .ref a5, .ref a6, .ref a7, .ref a8, .ref a9, .ref a10, .ref a11])), (a2, .inl (cI, 2, .inl g_M_poundHigh)), (a10, .inr (8, [.ref a12, .ref a13, .ref a14, .ref a15, .ref a16, .ref a17, .ref a18, .int v_Mw_7])), (a11, .inr (3, [.ref a19, .ref a20, .ref a21, .ref a22, .int v_Ms_4])), (a1, .inl (cI, 2, .inl f2))] := hD
  have hq1 := hp
  refine lv_aload_n hx hb dX7_makeEmpty_26 rfl (lv_at hl 0 rfl) ?_
  refine k_get hC hK hP iX7 0 4 wf_X7_15 rfl (by decide) rfl rfl dX7_makeEmpty_27 ?_
  refine lv_bipush (v := 16) hx hb dX7_makeEmpty_30 (by decide) ?_
  refine k_cv (wr := [(a0, .inr (7, [.int 100, .int 100, .int 0, .ref a1, .ref a2, .int v_M_5, .ref a3, .ref a4, .ref a5, .ref a6, .ref a7, .ref a8, .ref a9, .ref a10, .ref a11])), (a10, .inr (8, [.ref a12, .ref a13, .ref a14, .ref a15, .ref a16, .ref a17, .ref a18, .int v_Mw_7])), (a11, .inr (3, [.ref a19, .ref a20, .ref a21, .ref a22, .int v_Ms_4])), (a1, .inl (cI, 2, .inl f2))]) (k_rS hC hN hZ hS hA hK hP hD (c23_J7_fill_53178 l G cI cJ cB cZ a2 g_M_poundHigh hT_g_M_poundHigh) [1] rfl (by decide +kernel) mi_J7_fill_53178 st_J7_fill_53178 wm_X7_69 hl.1 rfl rfl (Nat.le_of_ble_eq_true rfl) ⟨(Nat.le_of_ble_eq_true rfl), (Nat.le_of_ble_eq_true rfl)⟩ dX7_makeEmpty_32 ⟨(Nat.le_of_ble_eq_true rfl), (Nat.le_of_ble_eq_true rfl)⟩) hP hD hS hA [1] [0, 2, 3, 4] rfl rfl (by decide +kernel) (by decide +kernel) (fun u3 H locs hp hP hD hS => ?_)
  obtain ⟨f4, ef4⟩ : ∃ q, q = u3 := ⟨_, rfl⟩
  subst ef4
  obtain ⟨hp, hT_f4⟩ : (True) ∧ TA 0 40 f4 := hp
  have hP : va_P G cl [(a0, .inr (7, [.int 100, .int 100, .int 0, .ref a1, .ref a2, .int v_M_5, .ref a3, .ref a4, .ref a5, .ref a6, .ref a7, .ref a8, .ref a9, .ref a10, .ref a11])), (a10, .inr (8, [.ref a12, .ref a13, .ref a14, .ref a15, .ref a16, .ref a17, .ref a18, .int v_Mw_7])), (a11, .inr (3, [.ref a19, .ref a20, .ref a21, .ref a22, .int v_Ms_4])), (a1, .inl (cI, 2, .inl f2)), (a2, .inl (cI, 2, .inl f4))] H := hP
  have hD : va_D A [(a0, .inr (7, [.int 100, .int 100, .int 0, .ref a1, .ref a2, .int v_M_5, .ref a3, .ref a4, .ref a5, .ref a6, .ref a7, .ref a8, .ref a9, .ref a10, .ref a11])), (a10, .inr (8, [.ref a12, .ref a13, .ref a14, .ref a15, .ref a16, .ref a17, .ref a18, .int v_Mw_7])), (a11, .inr (3, [.ref a19, .ref a20, .ref a21, .ref a22, .int v_Ms_4])), (a1, .inl (cI, 2, .inl f2)), (a2, .inl (cI, 2, .inl f4))] := hD
  have hq3 := hp
  refine lv_aload_n hx hb dX7_makeEmpty_35 rfl (lv_at hl 0 rfl) ?_
  refine lv_iconst (v := 0) hx hb dX7_makeEmpty_36 (by decide) ?_
  refine k_put hC hK hP hD hS iX7 tyX7_ok nmX7 0 5 wf_X7_75 rfl (by decide) rfl rfl rfl rfl (Nat.le_of_ble_eq_true rfl) dX7_makeEmpty_37 (fun H locs hP hD hS => ?_)
  have hP : va_P G cl [(a0, .inr (7, [.int 100, .int 100, .int 0, .ref a1, .ref a2, .int 0, .ref a3, .ref a4, .ref a5, .ref a6, .ref a7, .ref a8, .ref a9, .ref a10, .ref a11])), (a10, .inr (8, [.ref a12, .ref a13, .ref a14, .ref a15, .ref a16, .ref a17, .ref a18, .int v_Mw_7])), (a11, .inr (3, [.ref a19, .ref a20, .ref a21, .ref a22, .int v_Ms_4])), (a1, .inl (cI, 2, .inl f2)), (a2, .inl (cI, 2, .inl f4))] H := hP
  have hD : va_D A [(a0, .inr (7, [.int 100, .int 100, .int 0, .ref a1, .ref a2, .int 0, .ref a3, .ref a4, .ref a5, .ref a6, .ref a7, .ref a8, .ref a9, .ref a10, .ref a11])), (a10, .inr (8, [.ref a12, .ref a13, .ref a14, .ref a15, .ref a16, .ref a17, .ref a18, .int v_Mw_7])), (a11, .inr (3, [.ref a19, .ref a20, .ref a21, .ref a22, .int v_Ms_4])), (a1, .inl (cI, 2, .inl f2)), (a2, .inl (cI, 2, .inl f4))] := hD
  refine lv_aload_n hx hb dX7_makeEmpty_40 rfl (lv_at hl 0 rfl) ?_
  refine k_get hC hK hP iX7 0 13 wf_X7_45 rfl (by decide) rfl rfl dX7_makeEmpty_41 ?_
  refine lv_iconst (v := 0) hx hb dX7_makeEmpty_44 (by decide) ?_
  refine k_putN hC hN hK hP hD hS iX8 tyX8_ok nmX8 1 7 wf_X7_78 rfl (by decide) rfl rfl rfl rfl (Nat.le_of_ble_eq_true rfl) dX7_makeEmpty_45 (fun H locs hP hD hS => ?_)
  have hP : va_P G cl [(a0, .inr (7, [.int 100, .int 100, .int 0, .ref a1, .ref a2, .int 0, .ref a3, .ref a4, .ref a5, .ref a6, .ref a7, .ref a8, .ref a9, .ref a10, .ref a11])), (a10, .inr (8, [.ref a12, .ref a13, .ref a14, .ref a15, .ref a16, .ref a17, .ref a18, .int 0])), (a11, .inr (3, [.ref a19, .ref a20, .ref a21, .ref a22, .int v_Ms_4])), (a1, .inl (cI, 2, .inl f2)), (a2, .inl (cI, 2, .inl f4))] H := hP
  have hD : va_D A [(a0, .inr (7, [.int 100, .int 100, .int 0, .ref a1, .ref a2, .int 0, .ref a3, .ref a4, .ref a5, .ref a6, .ref a7, .ref a8, .ref a9, .ref a10, .ref a11])), (a10, .inr (8, [.ref a12, .ref a13, .ref a14, .ref a15, .ref a16, .ref a17, .ref a18, .int 0])), (a11, .inr (3, [.ref a19, .ref a20, .ref a21, .ref a22, .int v_Ms_4])), (a1, .inl (cI, 2, .inl f2)), (a2, .inl (cI, 2, .inl f4))] := hD
  refine lv_aload_n hx hb dX7_makeEmpty_48 rfl (lv_at hl 0 rfl) ?_
  refine k_get hC hK hP iX7 0 14 wf_X7_52 rfl (by decide) rfl rfl dX7_makeEmpty_49 ?_
  refine lv_iconst (v := 0) hx hb dX7_makeEmpty_52 (by decide) ?_
  refine k_putN hC hN hK hP hD hS iX3 tyX3_ok nmX3 2 4 wf_X7_81 rfl (by decide) rfl rfl rfl rfl (Nat.le_of_ble_eq_true rfl) dX7_makeEmpty_53 (fun H locs hP hD hS => ?_)
  have hP : va_P G cl [(a0, .inr (7, [.int 100, .int 100, .int 0, .ref a1, .ref a2, .int 0, .ref a3, .ref a4, .ref a5, .ref a6, .ref a7, .ref a8, .ref a9, .ref a10, .ref a11])), (a10, .inr (8, [.ref a12, .ref a13, .ref a14, .ref a15, .ref a16, .ref a17, .ref a18, .int 0])), (a11, .inr (3, [.ref a19, .ref a20, .ref a21, .ref a22, .int 0])), (a1, .inl (cI, 2, .inl f2)), (a2, .inl (cI, 2, .inl f4))] H := hP
  have hD : va_D A [(a0, .inr (7, [.int 100, .int 100, .int 0, .ref a1, .ref a2, .int 0, .ref a3, .ref a4, .ref a5, .ref a6, .ref a7, .ref a8, .ref a9, .ref a10, .ref a11])), (a10, .inr (8, [.ref a12, .ref a13, .ref a14, .ref a15, .ref a16, .ref a17, .ref a18, .int 0])), (a11, .inr (3, [.ref a19, .ref a20, .ref a21, .ref a22, .int 0])), (a1, .inl (cI, 2, .inl f2)), (a2, .inl (cI, 2, .inl f4))] := hD
  have l_l5 : (100 : Int32).toInt = 100 := rfl
  have l_l6 : (0 : Int32).toInt = 0 := rfl
  rw [← hQm]
  exact k_vret hC hr hlk hK hP hD hS (100, 100, 0, 0, 0, 0, f2, f4) [0, 3, 4, 1, 2] rfl (by decide +kernel) ⟨(show 100 ≤ (100 : Int32).toInt ∧ (100 : Int32).toInt ≤ 100 ∧ 100 ≤ (100 : Int32).toInt ∧ (100 : Int32).toInt ≤ 100 ∧ 0 ≤ (0 : Int32).toInt ∧ (0 : Int32).toInt ≤ 0 ∧ 0 ≤ (0 : Int32).toInt ∧ (0 : Int32).toInt ≤ 0 ∧ 0 ≤ (0 : Int32).toInt ∧ (0 : Int32).toInt ≤ 0 ∧ 0 ≤ (0 : Int32).toInt ∧ (0 : Int32).toInt ≤ 0 from by omega), hT_f2, hT_f4⟩ (Nat.le_of_ble_eq_true rfl) (Nat.le_of_ble_eq_true rfl) dX7_makeEmpty_56
theorem dX7_stoneOf_0 : decode cX7_stoneOf 0 = .ok (.iconst 0, 1) := by decide +kernel
theorem dX7_stoneOf_1 : decode cX7_stoneOf 1 = .ok (.istore_n 3, 1) := by decide +kernel
theorem dX7_stoneOf_2 : decode cX7_stoneOf 2 = .ok (.iload_n 3, 1) := by decide +kernel
theorem dX7_stoneOf_3 : decode cX7_stoneOf 3 = .ok (.aload_n 0, 1) := by decide +kernel
theorem dX7_stoneOf_4 : decode cX7_stoneOf 4 = .ok (.getfield 75, 3) := by decide +kernel
theorem dX7_stoneOf_7 : decode cX7_stoneOf 7 = .ok (.if_icmp .ge 22, 3) := by decide +kernel
theorem dX7_stoneOf_29 : decode cX7_stoneOf 29 = .ok (.iconst (-1), 1) := by decide +kernel
theorem dX7_stoneOf_30 : decode cX7_stoneOf 30 = .ok (.ireturn, 1) := by decide +kernel
theorem dX7_stoneOf_10 : decode cX7_stoneOf 10 = .ok (.aload_n 0, 1) := by decide +kernel
theorem dX7_stoneOf_11 : decode cX7_stoneOf 11 = .ok (.getfield 18, 3) := by decide +kernel
set_option maxRecDepth 100000 in
theorem wf_X7_18 : Cond.fieldLink RX7 18 "StoneTrust$Village" "name" "[J" ∈ gw := gm (List.mem_of_getElem? (i := 243) (by decide +kernel)) rfl
theorem dX7_stoneOf_14 : decode cX7_stoneOf 14 = .ok (.iload_n 3, 1) := by decide +kernel
theorem dX7_stoneOf_15 : decode cX7_stoneOf 15 = .ok (.laload, 1) := by decide +kernel
theorem dX7_stoneOf_16 : decode cX7_stoneOf 16 = .ok (.lload_n 1, 1) := by decide +kernel
theorem dX7_stoneOf_17 : decode cX7_stoneOf 17 = .ok (.lcmp, 1) := by decide +kernel
theorem dX7_stoneOf_18 : decode cX7_stoneOf 18 = .ok (.ifCond .ne 5, 3) := by decide +kernel
theorem dX7_stoneOf_23 : decode cX7_stoneOf 23 = .ok (.iinc 3 1, 3) := by decide +kernel
theorem dX7_stoneOf_26 : decode cX7_stoneOf 26 = .ok (.goto (-24), 3) := by decide +kernel
theorem dX7_stoneOf_21 : decode cX7_stoneOf 21 = .ok (.iload_n 3, 1) := by decide +kernel
theorem dX7_stoneOf_22 : decode cX7_stoneOf 22 = .ok (.ireturn, 1) := by decide +kernel
set_option maxHeartbeats 4000000 in
set_option maxRecDepth 100000 in
theorem c25_X7_stoneOf (l : Launch) (G : va_G) (cI cJ cB cZ : ClassId) (a0 a1 a2 a3 a4 a5 a6 a7 a8 a9 a10 a11 : Nat) (b1 : Int64) (v_M_0 : Int32) (v_M_1 : Int32) (v_M_2 : Int32) (v_M_5 : Int32) (g_M_name : Nat → Int64) (hv_0 : 0 ≤ v_M_0.toInt) (hv_1 : v_M_0.toInt ≤ 110) (hv_2 : 0 ≤ v_M_1.toInt) (hv_3 : v_M_1.toInt ≤ 110) (hv_4 : 0 ≤ v_M_5.toInt) (hv_5 : v_M_5.toInt ≤ 6) : Con l G (TY cI cJ cB cZ) yX7_stoneOf cX7_stoneOf 4 (some .int) ({ frames := 0, cells := 0, slots := 0, locals := 0 } : Room) [.ref a0, .long b1] [(a0, .inr (7, [.int v_M_0, .int v_M_1, .int v_M_2, .ref a1, .ref a2, .int v_M_5, .ref a3, .ref a4, .ref a5, .ref a6, .ref a7, .ref a8, .ref a9, .ref a10, .ref a11])), (a3, .inl (cJ, 6, .inr (.inl g_M_name)))] (QI G (TY cI cJ cB cZ) (fun (r : Int32) (u : Unit) => ((-1) ≤ r.toInt ∧ r.toInt ≤ 5)) (fun u : Unit => [(a0, .inr (7, [.int v_M_0, .int v_M_1, .int v_M_2, .ref a1, .ref a2, .int v_M_5, .ref a3, .ref a4, .ref a5, .ref a6, .ref a7, .ref a8, .ref a9, .ref a10, .ref a11])), (a3, .inl (cJ, 6, .inr (.inl g_M_name)))])) := by
  refine k_met (by decide) (Nat.le_of_ble_eq_true rfl) ?_
  intro p e s m below meth c A ls hC hr hlk hnm hN hZ hK hA hP hD hS hl
  have hl : lv_has ls 4 [(0, .ref a0), (1, .long b1)] := hl
  generalize hQm : MQ below _ _ s _ _ A = Qm
  generalize (List.toArray _ : Array Value) = args at hC hQm ⊢
  obtain ⟨hx, hb, hml, hown, hts⟩ := id hC
  obtain ⟨H, hH⟩ : ∃ q, q = s.heap := ⟨_, rfl⟩
  obtain ⟨locs, hlo⟩ : ∃ q : List Loc, q = [] := ⟨_, rfl⟩
  have hP : va_P G cl [(a0, .inr (7, [.int v_M_0, .int v_M_1, .int v_M_2, .ref a1, .ref a2, .int v_M_5, .ref a3, .ref a4, .ref a5, .ref a6, .ref a7, .ref a8, .ref a9, .ref a10, .ref a11])), (a3, .inl (cJ, 6, .inr (.inl g_M_name)))] H := by rw [hH]; exact hP
  have hS : va_S A s.heap H locs := by rw [hH, hlo]; exact hS
  rw [← hlo]
  rw [← hH]
  refine lv_iconst (v := 0) hx hb dX7_stoneOf_0 (by decide) ?_
  refine lv_istore_n (lv' := [(3, .int 0), (0, .ref a0), (1, .long b1)]) hx hb dX7_stoneOf_1 rfl hl (by decide) rfl (fun ls hl => ?_)
  have L_2 : ∀ (n : Nat) (x1 : Int32) (H : Heap) (locs : List Loc) (ls : Array Slot), (0 ≤ x1.toInt ∧ x1.toInt ≤ 6) → 6 - x1.toInt < (n : Int) → va_P G cl [(a0, .inr (7, [.int v_M_0, .int v_M_1, .int v_M_2, .ref a1, .ref a2, .int v_M_5, .ref a3, .ref a4, .ref a5, .ref a6, .ref a7, .ref a8, .ref a9, .ref a10, .ref a11])), (a3, .inl (cJ, 6, .inr (.inl g_M_name)))] H → va_D A [(a0, .inr (7, [.int v_M_0, .int v_M_1, .int v_M_2, .ref a1, .ref a2, .int v_M_5, .ref a3, .ref a4, .ref a5, .ref a6, .ref a7, .ref a8, .ref a9, .ref a10, .ref a11])), (a3, .inl (cJ, 6, .inr (.inl g_M_name)))] → va_S A s.heap H locs → lv_has ls 4 [(0, .ref a0), (1, .long b1), (3, .int x1)] → W p l e ({ frames := 0, cells := 0, slots := 0, locals := 0 } : Room) s m args below meth c H locs 0 0 Qm (F0 m 2 ls []) := by
    intro n
    induction n with
    | zero => intro x1 H locs ls hv hm; omega
    | succ n ih =>
      intro x1 H locs ls hv hm hP hD hS hl
      refine lv_iload_n hx hb dX7_stoneOf_2 rfl (lv_at hl 2 rfl) ?_
      refine lv_aload_n hx hb dX7_stoneOf_3 rfl (lv_at hl 0 rfl) ?_
      refine k_get hC hK hP iX7 0 5 wf_X7_75 rfl (by decide) rfl rfl dX7_stoneOf_4 ?_
      refine lv_icmp_ge (tgt := 29) hx hb dX7_stoneOf_7 (by decide) (fun c2 => ?_) (fun c2 => ?_)
      · have dc2 : v_M_5.toInt ≤ x1.toInt := (fa_le _ _).mp c2
        refine lv_iconst (v := (-1)) hx hb dX7_stoneOf_29 (by decide) ?_
        have l_l3 : ((-1) : Int32).toInt = (-1) := rfl
        rw [← hQm]
        exact k_iret hC hr hlk hK hP hD hS () [0, 1] rfl (by decide +kernel) (show (-1) ≤ ((-1) : Int32).toInt ∧ ((-1) : Int32).toInt ≤ 5 from by omega) (Nat.le_of_ble_eq_true rfl) (Nat.le_of_ble_eq_true rfl) dX7_stoneOf_30
      · have dc2 : x1.toInt < v_M_5.toInt := fa_nle c2
        refine lv_aload_n hx hb dX7_stoneOf_10 rfl (lv_at hl 0 rfl) ?_
        refine k_get hC hK hP iX7 0 6 wf_X7_18 rfl (by decide) rfl rfl dX7_stoneOf_11 ?_
        refine lv_iload_n hx hb dX7_stoneOf_14 rfl (lv_at hl 2 rfl) ?_
        refine t_lald hC hK hP 1 rfl (by omega) (by omega) dX7_stoneOf_15 (fun y4 => ?_)
        refine lv_lload_n hx hb dX7_stoneOf_16 rfl (lv_at hl 1 rfl) ?_
        refine W.lcmp hx hb dX7_stoneOf_17 ?_
        refine lv_topi (fun z5 _ => ?_)
        refine lv_if_ne (tgt := 23) hx hb dX7_stoneOf_18 (by decide) (fun c6 => ?_) (fun c6 => ?_)
        · have dc6 : z5.toInt ≠ 0 := fa_ne c6; have lbc6_0 := i_lo z5; have ubc6_0 := i_hi z5
          obtain ⟨z7, ez7⟩ : ∃ q : Int32, q = x1 + Int32.ofInt 1 := ⟨_, rfl⟩
          have tz7 : z7.toInt = x1.toInt + 1 := by rw [ez7]; exact add_i (y := 1) (by have p_ := i_lo x1; show _ ≤ _ + (1 : Int); omega) (by have q_ := i_hi x1; show _ + (1 : Int) ≤ _; omega)
          refine lv_iinc (v := z7) (lv' := [(3, .int z7), (0, .ref a0), (1, .long b1)]) hx hb dX7_stoneOf_23 hl (k := 2) rfl ez7.symm (by decide) rfl (fun ls hl => ?_)
          refine lv_goto (tgt := 2) hx hb dX7_stoneOf_26 (by decide) ?_
          exact ih  z7 H locs ls (by omega) (by omega) (hP.subm [0, 1] rfl) (hD.sub [0, 1] (by decide +kernel) rfl) hS (lv_sub hl [1, 2, 0] rfl)
        · have dc6 : z5.toInt = 0 := (fa_eq _ _).mp c6; have lbc6_0 := i_lo z5; have ubc6_0 := i_hi z5
          refine lv_iload_n hx hb dX7_stoneOf_21 rfl (lv_at hl 2 rfl) ?_
          rw [← hQm]
          exact k_iret hC hr hlk hK hP hD hS () [0, 1] rfl (by decide +kernel) (show (-1) ≤ x1.toInt ∧ x1.toInt ≤ 5 from by omega) (Nat.le_of_ble_eq_true rfl) (Nat.le_of_ble_eq_true rfl) dX7_stoneOf_22
  have l_l8 : (0 : Int32).toInt = 0 := rfl
  exact L_2 7 0 H locs ls (by omega) (by omega) (hP.subm [0, 1] rfl) (hD.sub [0, 1] (by decide +kernel) rfl) hS (lv_sub hl [1, 2, 0] rfl)
theorem dX7_ways_0 : decode cX7_ways 0 = .ok (.aload_n 0, 1) := by decide +kernel
theorem dX7_ways_1 : decode cX7_ways 1 = .ok (.getfield 63, 3) := by decide +kernel
theorem dX7_ways_4 : decode cX7_ways 4 = .ok (.aload_n 0, 1) := by decide +kernel
theorem dX7_ways_5 : decode cX7_ways 5 = .ok (.getfield 59, 3) := by decide +kernel
theorem dX7_ways_8 : decode cX7_ways 8 = .ok (.isub, 1) := by decide +kernel
theorem dX7_ways_9 : decode cX7_ways 9 = .ok (.iconst 1, 1) := by decide +kernel
theorem dX7_ways_10 : decode cX7_ways 10 = .ok (.iadd, 1) := by decide +kernel
theorem dX7_ways_11 : decode cX7_ways 11 = .ok (.istore_n 1, 1) := by decide +kernel
theorem dX7_ways_12 : decode cX7_ways 12 = .ok (.iconst 0, 1) := by decide +kernel
theorem dX7_ways_13 : decode cX7_ways 13 = .ok (.istore_n 2, 1) := by decide +kernel
theorem dX7_ways_14 : decode cX7_ways 14 = .ok (.iload_n 2, 1) := by decide +kernel
theorem dX7_ways_15 : decode cX7_ways 15 = .ok (.iconst 2, 1) := by decide +kernel
theorem dX7_ways_16 : decode cX7_ways 16 = .ok (.if_icmp .ge 27, 3) := by decide +kernel
theorem dX7_ways_43 : decode cX7_ways 43 = .ok (.iconst 0, 1) := by decide +kernel
theorem dX7_ways_44 : decode cX7_ways 44 = .ok (.istore_n 2, 1) := by decide +kernel
theorem dX7_ways_45 : decode cX7_ways 45 = .ok (.iload_n 2, 1) := by decide +kernel
theorem dX7_ways_46 : decode cX7_ways 46 = .ok (.aload_n 0, 1) := by decide +kernel
theorem dX7_ways_47 : decode cX7_ways 47 = .ok (.getfield 75, 3) := by decide +kernel
theorem dX7_ways_50 : decode cX7_ways 50 = .ok (.if_icmp .ge 22, 3) := by decide +kernel
theorem dX7_ways_72 : decode cX7_ways 72 = .ok (.iload_n 1, 1) := by decide +kernel
theorem dX7_ways_73 : decode cX7_ways 73 = .ok (.ireturn, 1) := by decide +kernel
theorem dX7_ways_53 : decode cX7_ways 53 = .ok (.iload_n 1, 1) := by decide +kernel
theorem dX7_ways_54 : decode cX7_ways 54 = .ok (.iconst 2, 1) := by decide +kernel
theorem dX7_ways_55 : decode cX7_ways 55 = .ok (.aload_n 0, 1) := by decide +kernel
theorem dX7_ways_56 : decode cX7_ways 56 = .ok (.getfield 28, 3) := by decide +kernel
set_option maxRecDepth 100000 in
theorem wf_X7_28 : Cond.fieldLink RX7 28 "StoneTrust$Village" "off" "[I" ∈ gw := gm (List.mem_of_getElem? (i := 250) (by decide +kernel)) rfl
theorem dX7_ways_59 : decode cX7_ways 59 = .ok (.iload_n 2, 1) := by decide +kernel
theorem dX7_ways_60 : decode cX7_ways 60 = .ok (.iaload, 1) := by decide +kernel
theorem dX7_ways_61 : decode cX7_ways 61 = .ok (.imul, 1) := by decide +kernel
theorem dX7_ways_62 : decode cX7_ways 62 = .ok (.iconst 1, 1) := by decide +kernel
theorem dX7_ways_63 : decode cX7_ways 63 = .ok (.iadd, 1) := by decide +kernel
theorem dX7_ways_64 : decode cX7_ways 64 = .ok (.imul, 1) := by decide +kernel
theorem dX7_ways_65 : decode cX7_ways 65 = .ok (.istore_n 1, 1) := by decide +kernel
theorem dX7_ways_66 : decode cX7_ways 66 = .ok (.iinc 2 1, 3) := by decide +kernel
theorem dX7_ways_69 : decode cX7_ways 69 = .ok (.goto (-24), 3) := by decide +kernel
theorem dX7_ways_19 : decode cX7_ways 19 = .ok (.iload_n 1, 1) := by decide +kernel
theorem dX7_ways_20 : decode cX7_ways 20 = .ok (.aload_n 0, 1) := by decide +kernel
theorem dX7_ways_21 : decode cX7_ways 21 = .ok (.getfield 15, 3) := by decide +kernel
theorem dX7_ways_24 : decode cX7_ways 24 = .ok (.iload_n 2, 1) := by decide +kernel
theorem dX7_ways_25 : decode cX7_ways 25 = .ok (.iaload, 1) := by decide +kernel
theorem dX7_ways_26 : decode cX7_ways 26 = .ok (.aload_n 0, 1) := by decide +kernel
theorem dX7_ways_27 : decode cX7_ways 27 = .ok (.getfield 9, 3) := by decide +kernel
theorem dX7_ways_30 : decode cX7_ways 30 = .ok (.iload_n 2, 1) := by decide +kernel
theorem dX7_ways_31 : decode cX7_ways 31 = .ok (.iaload, 1) := by decide +kernel
theorem dX7_ways_32 : decode cX7_ways 32 = .ok (.isub, 1) := by decide +kernel
theorem dX7_ways_33 : decode cX7_ways 33 = .ok (.iconst 1, 1) := by decide +kernel
theorem dX7_ways_34 : decode cX7_ways 34 = .ok (.iadd, 1) := by decide +kernel
theorem dX7_ways_35 : decode cX7_ways 35 = .ok (.imul, 1) := by decide +kernel
theorem dX7_ways_36 : decode cX7_ways 36 = .ok (.istore_n 1, 1) := by decide +kernel
theorem dX7_ways_37 : decode cX7_ways 37 = .ok (.iinc 2 1, 3) := by decide +kernel
theorem dX7_ways_40 : decode cX7_ways 40 = .ok (.goto (-26), 3) := by decide +kernel
set_option maxHeartbeats 4000000 in
set_option maxRecDepth 100000 in
theorem c26_X7_ways (l : Launch) (G : va_G) (cI cJ cB cZ : ClassId) (a0 a1 a2 a3 a4 a5 a6 a7 a8 a9 a10 a11 : Nat) (v_V_0 : Int32) (v_V_1 : Int32) (v_V_2 : Int32) (v_V_5 : Int32) (g_V_poundHigh : Nat → Int32) (g_V_poundLow : Nat → Int32) (g_V_off : Nat → Int32) (hv_0 : 0 ≤ v_V_0.toInt) (hv_1 : v_V_0.toInt ≤ 110) (hv_2 : 0 ≤ v_V_1.toInt) (hv_3 : v_V_1.toInt ≤ 110) (hv_4 : 0 ≤ v_V_5.toInt) (hv_5 : v_V_5.toInt ≤ 6) (hT_g_V_poundHigh : TA 0 40 g_V_poundHigh) (hT_g_V_poundLow : TA 0 40 g_V_poundLow) (hT_g_V_off : TA 0 4 g_V_off) : Con l G (TY cI cJ cB cZ) yX7_ways cX7_ways 3 (some .int) ({ frames := 0, cells := 0, slots := 0, locals := 0 } : Room) [.ref a0] [(a0, .inr (7, [.int v_V_0, .int v_V_1, .int v_V_2, .ref a1, .ref a2, .int v_V_5, .ref a3, .ref a4, .ref a5, .ref a6, .ref a7, .ref a8, .ref a9, .ref a10, .ref a11])), (a2, .inl (cI, 2, .inl g_V_poundHigh)), (a1, .inl (cI, 2, .inl g_V_poundLow)), (a6, .inl (cI, 6, .inl g_V_off))] (QI G (TY cI cJ cB cZ) (fun (r : Int32) (u : Unit) => (True)) (fun u : Unit => [(a0, .inr (7, [.int v_V_0, .int v_V_1, .int v_V_2, .ref a1, .ref a2, .int v_V_5, .ref a3, .ref a4, .ref a5, .ref a6, .ref a7, .ref a8, .ref a9, .ref a10, .ref a11])), (a2, .inl (cI, 2, .inl g_V_poundHigh)), (a1, .inl (cI, 2, .inl g_V_poundLow)), (a6, .inl (cI, 6, .inl g_V_off))])) := by
  refine k_met (by decide) (Nat.le_of_ble_eq_true rfl) ?_
  intro p e s m below meth c A ls hC hr hlk hnm hN hZ hK hA hP hD hS hl
  have hl : lv_has ls 3 [(0, .ref a0)] := hl
  generalize hQm : MQ below _ _ s _ _ A = Qm
  generalize (List.toArray _ : Array Value) = args at hC hQm ⊢
  obtain ⟨hx, hb, hml, hown, hts⟩ := id hC
  obtain ⟨H, hH⟩ : ∃ q, q = s.heap := ⟨_, rfl⟩
  obtain ⟨locs, hlo⟩ : ∃ q : List Loc, q = [] := ⟨_, rfl⟩
  have hP : va_P G cl [(a0, .inr (7, [.int v_V_0, .int v_V_1, .int v_V_2, .ref a1, .ref a2, .int v_V_5, .ref a3, .ref a4, .ref a5, .ref a6, .ref a7, .ref a8, .ref a9, .ref a10, .ref a11])), (a2, .inl (cI, 2, .inl g_V_poundHigh)), (a1, .inl (cI, 2, .inl g_V_poundLow)), (a6, .inl (cI, 6, .inl g_V_off))] H := by rw [hH]; exact hP
  have hS : va_S A s.heap H locs := by rw [hH, hlo]; exact hS
  rw [← hlo]
  rw [← hH]
  refine lv_aload_n hx hb dX7_ways_0 rfl (lv_at hl 0 rfl) ?_
  refine k_get hC hK hP iX7 0 1 wf_X7_63 rfl (by decide) rfl rfl dX7_ways_1 ?_
  refine lv_aload_n hx hb dX7_ways_4 rfl (lv_at hl 0 rfl) ?_
  refine k_get hC hK hP iX7 0 0 wf_X7_59 rfl (by decide) rfl rfl dX7_ways_5 ?_
  refine lv_isub hx hb dX7_ways_8 ?_
  refine t_i (fun q => q.toInt = v_V_1.toInt - v_V_0.toInt) (sub_i (by show (-2147483648 : Int) ≤ v_V_1.toInt - v_V_0.toInt; omega) (by show v_V_1.toInt - v_V_0.toInt ≤ (2147483647 : Int); omega)) (fun z1 tz1 => ?_)
  refine lv_iconst (v := 1) hx hb dX7_ways_9 (by decide) ?_
  refine lv_iadd hx hb dX7_ways_10 ?_
  refine t_i (fun q => q.toInt = z1.toInt + 1) (add_i (by show (-2147483648 : Int) ≤ z1.toInt + 1; omega) (by show z1.toInt + 1 ≤ (2147483647 : Int); omega)) (fun z2 tz2 => ?_)
  refine lv_istore_n (lv' := [(1, .int z2), (0, .ref a0)]) hx hb dX7_ways_11 rfl hl (by decide) rfl (fun ls hl => ?_)
  refine lv_iconst (v := 0) hx hb dX7_ways_12 (by decide) ?_
  refine lv_istore_n (lv' := [(2, .int 0), (1, .int z2), (0, .ref a0)]) hx hb dX7_ways_13 rfl hl (by decide) rfl (fun ls hl => ?_)
  have L_14 : ∀ (n : Nat) (x3 : Int32) (x4 : Int32) (H : Heap) (locs : List Loc) (ls : Array Slot), (0 ≤ x3.toInt ∧ x3.toInt ≤ 2) → 2 - x3.toInt < (n : Int) → va_P G cl [(a0, .inr (7, [.int v_V_0, .int v_V_1, .int v_V_2, .ref a1, .ref a2, .int v_V_5, .ref a3, .ref a4, .ref a5, .ref a6, .ref a7, .ref a8, .ref a9, .ref a10, .ref a11])), (a2, .inl (cI, 2, .inl g_V_poundHigh)), (a1, .inl (cI, 2, .inl g_V_poundLow)), (a6, .inl (cI, 6, .inl g_V_off))] H → va_D A [(a0, .inr (7, [.int v_V_0, .int v_V_1, .int v_V_2, .ref a1, .ref a2, .int v_V_5, .ref a3, .ref a4, .ref a5, .ref a6, .ref a7, .ref a8, .ref a9, .ref a10, .ref a11])), (a2, .inl (cI, 2, .inl g_V_poundHigh)), (a1, .inl (cI, 2, .inl g_V_poundLow)), (a6, .inl (cI, 6, .inl g_V_off))] → va_S A s.heap H locs → lv_has ls 3 [(0, .ref a0), (1, .int x4), (2, .int x3)] → W p l e ({ frames := 0, cells := 0, slots := 0, locals := 0 } : Room) s m args below meth c H locs 0 0 Qm (F0 m 14 ls []) := by
    intro n
    induction n with
    | zero => intro x3 x4 H locs ls hv hm; omega
    | succ n ih =>
      intro x3 x4 H locs ls hv hm hP hD hS hl
      refine lv_iload_n hx hb dX7_ways_14 rfl (lv_at hl 2 rfl) ?_
      refine lv_iconst (v := 2) hx hb dX7_ways_15 (by decide) ?_
      refine lv_icmp_ge (tgt := 43) hx hb dX7_ways_16 (by decide) (fun c5 => ?_) (fun c5 => ?_)
      · have dc5 : 2 ≤ x3.toInt := (fa_le _ _).mp c5
        refine lv_iconst (v := 0) hx hb dX7_ways_43 (by decide) ?_
        refine lv_istore_n (lv' := [(2, .int 0), (0, .ref a0), (1, .int x4)]) hx hb dX7_ways_44 rfl hl (by decide) rfl (fun ls hl => ?_)
        have L_45 : ∀ (n : Nat) (x6 : Int32) (x7 : Int32) (H : Heap) (locs : List Loc) (ls : Array Slot), (0 ≤ x6.toInt ∧ x6.toInt ≤ 6) → 6 - x6.toInt < (n : Int) → va_P G cl [(a0, .inr (7, [.int v_V_0, .int v_V_1, .int v_V_2, .ref a1, .ref a2, .int v_V_5, .ref a3, .ref a4, .ref a5, .ref a6, .ref a7, .ref a8, .ref a9, .ref a10, .ref a11])), (a2, .inl (cI, 2, .inl g_V_poundHigh)), (a1, .inl (cI, 2, .inl g_V_poundLow)), (a6, .inl (cI, 6, .inl g_V_off))] H → va_D A [(a0, .inr (7, [.int v_V_0, .int v_V_1, .int v_V_2, .ref a1, .ref a2, .int v_V_5, .ref a3, .ref a4, .ref a5, .ref a6, .ref a7, .ref a8, .ref a9, .ref a10, .ref a11])), (a2, .inl (cI, 2, .inl g_V_poundHigh)), (a1, .inl (cI, 2, .inl g_V_poundLow)), (a6, .inl (cI, 6, .inl g_V_off))] → va_S A s.heap H locs → lv_has ls 3 [(0, .ref a0), (1, .int x7), (2, .int x6)] → W p l e ({ frames := 0, cells := 0, slots := 0, locals := 0 } : Room) s m args below meth c H locs 0 0 Qm (F0 m 45 ls []) := by
          intro n
          induction n with
          | zero => intro x6 x7 H locs ls hv hm; omega
          | succ n ih_45 =>
            intro x6 x7 H locs ls hv hm hP hD hS hl
            refine lv_iload_n hx hb dX7_ways_45 rfl (lv_at hl 2 rfl) ?_
            refine lv_aload_n hx hb dX7_ways_46 rfl (lv_at hl 0 rfl) ?_
            refine k_get hC hK hP iX7 0 5 wf_X7_75 rfl (by decide) rfl rfl dX7_ways_47 ?_
            refine lv_icmp_ge (tgt := 72) hx hb dX7_ways_50 (by decide) (fun c8 => ?_) (fun c8 => ?_)
            · have dc8 : v_V_5.toInt ≤ x6.toInt := (fa_le _ _).mp c8
              refine lv_iload_n hx hb dX7_ways_72 rfl (lv_at hl 1 rfl) ?_
              rw [← hQm]
              exact k_iret hC hr hlk hK hP hD hS () [0, 1, 2, 3] rfl (by decide +kernel) trivial (Nat.le_of_ble_eq_true rfl) (Nat.le_of_ble_eq_true rfl) dX7_ways_73
            · have dc8 : x6.toInt < v_V_5.toInt := fa_nle c8
              refine lv_iload_n hx hb dX7_ways_53 rfl (lv_at hl 1 rfl) ?_
              refine lv_iconst (v := 2) hx hb dX7_ways_54 (by decide) ?_
              refine lv_aload_n hx hb dX7_ways_55 rfl (lv_at hl 0 rfl) ?_
              refine k_get hC hK hP iX7 0 9 wf_X7_28 rfl (by decide) rfl rfl dX7_ways_56 ?_
              refine lv_iload_n hx hb dX7_ways_59 rfl (lv_at hl 2 rfl) ?_
              refine t_iald hC hK hP 3 rfl (by omega) (by omega) hT_g_V_off dX7_ways_60 (fun z9 tz9 => ?_)
              refine lv_imul hx hb dX7_ways_61 ?_
              refine t_i (fun q => q.toInt = 2 * z9.toInt) (mul_i (by show (-2147483648 : Int) ≤ 2 * z9.toInt; omega) (by show 2 * z9.toInt ≤ (2147483647 : Int); omega)) (fun z10 tz10 => ?_)
              refine lv_iconst (v := 1) hx hb dX7_ways_62 (by decide) ?_
              refine lv_iadd hx hb dX7_ways_63 ?_
              refine t_i (fun q => q.toInt = z10.toInt + 1) (add_i (by show (-2147483648 : Int) ≤ z10.toInt + 1; omega) (by show z10.toInt + 1 ≤ (2147483647 : Int); omega)) (fun z11 tz11 => ?_)
              refine lv_imul hx hb dX7_ways_64 ?_
              refine lv_topi (fun z12 _ => ?_)
              refine lv_istore_n (lv' := [(1, .int z12), (0, .ref a0), (2, .int x6)]) hx hb dX7_ways_65 rfl hl (by decide) rfl (fun ls hl => ?_)
              obtain ⟨z13, ez13⟩ : ∃ q : Int32, q = x6 + Int32.ofInt 1 := ⟨_, rfl⟩
              have tz13 : z13.toInt = x6.toInt + 1 := by rw [ez13]; exact add_i (y := 1) (by have p_ := i_lo x6; show _ ≤ _ + (1 : Int); omega) (by have q_ := i_hi x6; show _ + (1 : Int) ≤ _; omega)
              refine lv_iinc (v := z13) (lv' := [(2, .int z13), (1, .int z12), (0, .ref a0)]) hx hb dX7_ways_66 hl (k := 2) rfl ez13.symm (by decide) rfl (fun ls hl => ?_)
              refine lv_goto (tgt := 45) hx hb dX7_ways_69 (by decide) ?_
              exact ih_45  z13 z12 H locs ls (by omega) (by omega) (hP.subm [0, 1, 2, 3] rfl) (hD.sub [0, 1, 2, 3] (by decide +kernel) rfl) hS (lv_sub hl [2, 1, 0] rfl)
        have l_l14 : (0 : Int32).toInt = 0 := rfl
        exact L_45 7 0 x4 H locs ls (by omega) (by omega) (hP.subm [0, 1, 2, 3] rfl) (hD.sub [0, 1, 2, 3] (by decide +kernel) rfl) hS (lv_sub hl [1, 2, 0] rfl)
      · have dc5 : x3.toInt < 2 := fa_nle c5
        refine lv_iload_n hx hb dX7_ways_19 rfl (lv_at hl 1 rfl) ?_
        refine lv_aload_n hx hb dX7_ways_20 rfl (lv_at hl 0 rfl) ?_
        refine k_get hC hK hP iX7 0 4 wf_X7_15 rfl (by decide) rfl rfl dX7_ways_21 ?_
        refine lv_iload_n hx hb dX7_ways_24 rfl (lv_at hl 2 rfl) ?_
        refine t_iald hC hK hP 1 rfl (by omega) (by omega) hT_g_V_poundHigh dX7_ways_25 (fun z15 tz15 => ?_)
        refine lv_aload_n hx hb dX7_ways_26 rfl (lv_at hl 0 rfl) ?_
        refine k_get hC hK hP iX7 0 3 wf_X7_9 rfl (by decide) rfl rfl dX7_ways_27 ?_
        refine lv_iload_n hx hb dX7_ways_30 rfl (lv_at hl 2 rfl) ?_
        refine t_iald hC hK hP 2 rfl (by omega) (by omega) hT_g_V_poundLow dX7_ways_31 (fun z16 tz16 => ?_)
        refine lv_isub hx hb dX7_ways_32 ?_
        refine t_i (fun q => q.toInt = z15.toInt - z16.toInt) (sub_i (by show (-2147483648 : Int) ≤ z15.toInt - z16.toInt; omega) (by show z15.toInt - z16.toInt ≤ (2147483647 : Int); omega)) (fun z17 tz17 => ?_)
        refine lv_iconst (v := 1) hx hb dX7_ways_33 (by decide) ?_
        refine lv_iadd hx hb dX7_ways_34 ?_
        refine t_i (fun q => q.toInt = z17.toInt + 1) (add_i (by show (-2147483648 : Int) ≤ z17.toInt + 1; omega) (by show z17.toInt + 1 ≤ (2147483647 : Int); omega)) (fun z18 tz18 => ?_)
        refine lv_imul hx hb dX7_ways_35 ?_
        refine lv_topi (fun z19 _ => ?_)
        refine lv_istore_n (lv' := [(1, .int z19), (0, .ref a0), (2, .int x3)]) hx hb dX7_ways_36 rfl hl (by decide) rfl (fun ls hl => ?_)
        obtain ⟨z20, ez20⟩ : ∃ q : Int32, q = x3 + Int32.ofInt 1 := ⟨_, rfl⟩
        have tz20 : z20.toInt = x3.toInt + 1 := by rw [ez20]; exact add_i (y := 1) (by have p_ := i_lo x3; show _ ≤ _ + (1 : Int); omega) (by have q_ := i_hi x3; show _ + (1 : Int) ≤ _; omega)
        refine lv_iinc (v := z20) (lv' := [(2, .int z20), (1, .int z19), (0, .ref a0)]) hx hb dX7_ways_37 hl (k := 2) rfl ez20.symm (by decide) rfl (fun ls hl => ?_)
        refine lv_goto (tgt := 14) hx hb dX7_ways_40 (by decide) ?_
        exact ih  z20 z19 H locs ls (by omega) (by omega) (hP.subm [0, 1, 2, 3] rfl) (hD.sub [0, 1, 2, 3] (by decide +kernel) rfl) hS (lv_sub hl [2, 1, 0] rfl)
  have l_l21 : (0 : Int32).toInt = 0 := rfl
  exact L_14 3 0 z2 H locs ls (by omega) (by omega) (hP.subm [0, 1, 2, 3] rfl) (hD.sub [0, 1, 2, 3] (by decide +kernel) rfl) hS (lv_sub hl [2, 1, 0] rfl)
theorem dX7_hasMaster_0 : decode cX7_hasMaster 0 = .ok (.aload_n 0, 1) := by decide +kernel
theorem dX7_hasMaster_1 : decode cX7_hasMaster 1 = .ok (.getfield 37, 3) := by decide +kernel
set_option maxRecDepth 100000 in
theorem wf_X7_37 : Cond.fieldLink RX7 37 "StoneTrust$Village" "masterHigh" "[I" ∈ gw := gm (List.mem_of_getElem? (i := 257) (by decide +kernel)) rfl
theorem dX7_hasMaster_4 : decode cX7_hasMaster 4 = .ok (.iload_n 1, 1) := by decide +kernel
theorem dX7_hasMaster_5 : decode cX7_hasMaster 5 = .ok (.iaload, 1) := by decide +kernel
theorem dX7_hasMaster_6 : decode cX7_hasMaster 6 = .ok (.ifCond .lt 7, 3) := by decide +kernel
theorem dX7_hasMaster_13 : decode cX7_hasMaster 13 = .ok (.iconst 0, 1) := by decide +kernel
theorem dX7_hasMaster_14 : decode cX7_hasMaster 14 = .ok (.ireturn, 1) := by decide +kernel
theorem dX7_hasMaster_9 : decode cX7_hasMaster 9 = .ok (.iconst 1, 1) := by decide +kernel
theorem dX7_hasMaster_10 : decode cX7_hasMaster 10 = .ok (.goto 4, 3) := by decide +kernel
set_option maxHeartbeats 4000000 in
set_option maxRecDepth 100000 in
theorem c27_X7_hasMaster (l : Launch) (G : va_G) (cI cJ cB cZ : ClassId) (a0 a1 a2 a3 a4 a5 a6 a7 a8 a9 a10 a11 : Nat) (b1 : Int32) (v_V_0 : Int32) (v_V_1 : Int32) (v_V_2 : Int32) (v_V_5 : Int32) (g_V_masterHigh : Nat → Int32) (hv_0 : 0 ≤ b1.toInt) (hv_1 : b1.toInt ≤ 5) (hv_2 : 0 ≤ v_V_0.toInt) (hv_3 : v_V_0.toInt ≤ 110) (hv_4 : 0 ≤ v_V_1.toInt) (hv_5 : v_V_1.toInt ≤ 110) (hv_6 : 0 ≤ v_V_5.toInt) (hv_7 : v_V_5.toInt ≤ 6) : Con l G (TY cI cJ cB cZ) yX7_hasMaster cX7_hasMaster 2 (some .boolean) ({ frames := 0, cells := 0, slots := 0, locals := 0 } : Room) [.ref a0, .int b1] [(a0, .inr (7, [.int v_V_0, .int v_V_1, .int v_V_2, .ref a1, .ref a2, .int v_V_5, .ref a3, .ref a4, .ref a5, .ref a6, .ref a7, .ref a8, .ref a9, .ref a10, .ref a11])), (a9, .inl (cI, 6, .inl g_V_masterHigh))] (QI G (TY cI cJ cB cZ) (fun (r : Int32) (u : Unit) => (0 ≤ r.toInt ∧ r.toInt ≤ 1)) (fun u : Unit => [(a0, .inr (7, [.int v_V_0, .int v_V_1, .int v_V_2, .ref a1, .ref a2, .int v_V_5, .ref a3, .ref a4, .ref a5, .ref a6, .ref a7, .ref a8, .ref a9, .ref a10, .ref a11])), (a9, .inl (cI, 6, .inl g_V_masterHigh))])) := by
  refine k_met (by decide) (Nat.le_of_ble_eq_true rfl) ?_
  intro p e s m below meth c A ls hC hr hlk hnm hN hZ hK hA hP hD hS hl
  have hl : lv_has ls 2 [(0, .ref a0), (1, .int b1)] := hl
  generalize hQm : MQ below _ _ s _ _ A = Qm
  generalize (List.toArray _ : Array Value) = args at hC hQm ⊢
  obtain ⟨hx, hb, hml, hown, hts⟩ := id hC
  obtain ⟨H, hH⟩ : ∃ q, q = s.heap := ⟨_, rfl⟩
  obtain ⟨locs, hlo⟩ : ∃ q : List Loc, q = [] := ⟨_, rfl⟩
  have hP : va_P G cl [(a0, .inr (7, [.int v_V_0, .int v_V_1, .int v_V_2, .ref a1, .ref a2, .int v_V_5, .ref a3, .ref a4, .ref a5, .ref a6, .ref a7, .ref a8, .ref a9, .ref a10, .ref a11])), (a9, .inl (cI, 6, .inl g_V_masterHigh))] H := by rw [hH]; exact hP
  have hS : va_S A s.heap H locs := by rw [hH, hlo]; exact hS
  rw [← hlo]
  rw [← hH]
  refine lv_aload_n hx hb dX7_hasMaster_0 rfl (lv_at hl 0 rfl) ?_
  refine k_get hC hK hP iX7 0 12 wf_X7_37 rfl (by decide) rfl rfl dX7_hasMaster_1 ?_
  refine lv_iload_n hx hb dX7_hasMaster_4 rfl (lv_at hl 1 rfl) ?_
  refine t_iald hC hK hP 1 rfl (by omega) (by omega) (TA.all _) dX7_hasMaster_5 (fun z1 tz1 => ?_)
  refine lv_if_lt (tgt := 13) hx hb dX7_hasMaster_6 (by decide) (fun c2 => ?_) (fun c2 => ?_)
  · have dc2 : z1.toInt < 0 := (fa_lt _ _).mp c2; have lbc2_0 := i_lo z1; have ubc2_0 := i_hi z1
    refine lv_iconst (v := 0) hx hb dX7_hasMaster_13 (by decide) ?_
    have l_l3 : (0 : Int32).toInt = 0 := rfl
    rw [← hQm]
    exact k_zret hC hr hlk hK hP hD hS () [0, 1] rfl (by decide +kernel) rfl (show 0 ≤ (0 : Int32).toInt ∧ (0 : Int32).toInt ≤ 1 from by omega) (Nat.le_of_ble_eq_true rfl) (Nat.le_of_ble_eq_true rfl) dX7_hasMaster_14
  · have dc2 : 0 ≤ z1.toInt := fa_nlt c2; have lbc2_0 := i_lo z1; have ubc2_0 := i_hi z1
    refine lv_iconst (v := 1) hx hb dX7_hasMaster_9 (by decide) ?_
    refine lv_goto (tgt := 14) hx hb dX7_hasMaster_10 (by decide) ?_
    have l_l4 : (1 : Int32).toInt = 1 := rfl
    rw [← hQm]
    exact k_zret hC hr hlk hK hP hD hS () [0, 1] rfl (by decide +kernel) rfl (show 0 ≤ (1 : Int32).toInt ∧ (1 : Int32).toInt ≤ 1 from by omega) (Nat.le_of_ble_eq_true rfl) (Nat.le_of_ble_eq_true rfl) dX7_hasMaster_14
theorem dX7_leastWeight_0 : decode cX7_leastWeight 0 = .ok (.iconst 1, 1) := by decide +kernel
theorem dX7_leastWeight_1 : decode cX7_leastWeight 1 = .ok (.aload_n 0, 1) := by decide +kernel
theorem dX7_leastWeight_2 : decode cX7_leastWeight 2 = .ok (.getfield 22, 3) := by decide +kernel
set_option maxRecDepth 100000 in
theorem wf_X7_22 : Cond.fieldLink RX7 22 "StoneTrust$Village" "says" "[I" ∈ gw := gm (List.mem_of_getElem? (i := 245) (by decide +kernel)) rfl
theorem dX7_leastWeight_5 : decode cX7_leastWeight 5 = .ok (.iload_n 1, 1) := by decide +kernel
theorem dX7_leastWeight_6 : decode cX7_leastWeight 6 = .ok (.iaload, 1) := by decide +kernel
theorem dX7_leastWeight_7 : decode cX7_leastWeight 7 = .ok (.iload_n 2, 1) := by decide +kernel
theorem dX7_leastWeight_8 : decode cX7_leastWeight 8 = .ok (.imul, 1) := by decide +kernel
theorem dX7_leastWeight_9 : decode cX7_leastWeight 9 = .ok (.aload_n 0, 1) := by decide +kernel
theorem dX7_leastWeight_10 : decode cX7_leastWeight 10 = .ok (.getfield 28, 3) := by decide +kernel
theorem dX7_leastWeight_13 : decode cX7_leastWeight 13 = .ok (.iload_n 1, 1) := by decide +kernel
theorem dX7_leastWeight_14 : decode cX7_leastWeight 14 = .ok (.iaload, 1) := by decide +kernel
theorem dX7_leastWeight_15 : decode cX7_leastWeight 15 = .ok (.isub, 1) := by decide +kernel
theorem dX7_leastWeight_16 : decode cX7_leastWeight 16 = .ok (.invokestatic 82, 3) := by decide +kernel
set_option maxRecDepth 100000 in
theorem wm_X7_82 : Cond.methodLink RX7 82 Lib.Math.max.name ∈ gw := gm (List.mem_of_getElem? (i := 840) (by decide +kernel)) rfl
set_option maxRecDepth 100000 in
theorem st_Mmax : Cond.static Lib.Math.max.name ∈ gw := gm (List.mem_of_getElem? (i := 148) (by decide +kernel)) rfl
set_option maxRecDepth 100000 in
theorem ini_Math : Cond.initialized "java/lang/Math" ∈ gw := gm (List.mem_of_getElem? (i := 115) (by decide +kernel)) rfl
set_option maxRecDepth 100000 in
theorem co_Mmax : Cond.code Lib.Math.max.name Lib.Math.max.code 2 (some .int) ∈ gw := gm (List.mem_of_getElem? (i := 149) rfl) rfl
theorem dX7_leastWeight_19 : decode cX7_leastWeight 19 = .ok (.istore_n 3, 1) := by decide +kernel
theorem dX7_leastWeight_20 : decode cX7_leastWeight 20 = .ok (.aload_n 0, 1) := by decide +kernel
theorem dX7_leastWeight_21 : decode cX7_leastWeight 21 = .ok (.iload_n 1, 1) := by decide +kernel
theorem dX7_leastWeight_22 : decode cX7_leastWeight 22 = .ok (.invokevirtual 88, 3) := by decide +kernel
set_option maxRecDepth 100000 in
theorem wm_X7_88 : Cond.methodLink RX7 88 yX7_hasMaster ∈ gw := gm (List.mem_of_getElem? (i := 841) (by decide +kernel)) rfl
set_option maxRecDepth 100000 in
theorem mi_X7_hasMaster : MI yX7_hasMaster cX7_hasMaster 2 (some .boolean) 1 := ⟨gm (List.mem_of_getElem? (i := 693) rfl) rfl, gm (List.mem_of_getElem? (i := 113) (by decide +kernel)) rfl, by decide, by decide, by decide +kernel⟩
set_option maxRecDepth 100000 in
theorem in_X7_hasMaster : Cond.instanceMethod yX7_hasMaster ∈ gw := gm (List.mem_of_getElem? (i := 691) (by decide +kernel)) rfl
set_option maxRecDepth 100000 in
theorem se_X7_hasMaster : Cond.selects yX7_hasMaster.cls yX7_hasMaster yX7_hasMaster ∈ gw := gm (List.mem_of_getElem? (i := 692) (by decide +kernel)) rfl
theorem dX7_leastWeight_25 : decode cX7_leastWeight 25 = .ok (.ifCond .eq 16, 3) := by decide +kernel
theorem dX7_leastWeight_41 : decode cX7_leastWeight 41 = .ok (.iload_n 3, 1) := by decide +kernel
theorem dX7_leastWeight_42 : decode cX7_leastWeight 42 = .ok (.ireturn, 1) := by decide +kernel
theorem dX7_leastWeight_28 : decode cX7_leastWeight 28 = .ok (.iload_n 3, 1) := by decide +kernel
theorem dX7_leastWeight_29 : decode cX7_leastWeight 29 = .ok (.aload_n 0, 1) := by decide +kernel
theorem dX7_leastWeight_30 : decode cX7_leastWeight 30 = .ok (.getfield 34, 3) := by decide +kernel
set_option maxRecDepth 100000 in
theorem wf_X7_34 : Cond.fieldLink RX7 34 "StoneTrust$Village" "masterLow" "[I" ∈ gw := gm (List.mem_of_getElem? (i := 255) (by decide +kernel)) rfl
theorem dX7_leastWeight_33 : decode cX7_leastWeight 33 = .ok (.iload_n 1, 1) := by decide +kernel
theorem dX7_leastWeight_34 : decode cX7_leastWeight 34 = .ok (.iaload, 1) := by decide +kernel
theorem dX7_leastWeight_35 : decode cX7_leastWeight 35 = .ok (.invokestatic 82, 3) := by decide +kernel
theorem dX7_leastWeight_38 : decode cX7_leastWeight 38 = .ok (.goto 4, 3) := by decide +kernel
set_option maxHeartbeats 4000000 in
set_option maxRecDepth 100000 in
theorem c28_X7_leastWeight (l : Launch) (G : va_G) (cI cJ cB cZ : ClassId) (a0 a1 a2 a3 a4 a5 a6 a7 a8 a9 a10 a11 : Nat) (b1 : Int32) (b2 : Int32) (v_V_0 : Int32) (v_V_1 : Int32) (v_V_2 : Int32) (v_V_5 : Int32) (g_V_says : Nat → Int32) (g_V_off : Nat → Int32) (g_V_masterHigh : Nat → Int32) (g_V_masterLow : Nat → Int32) (hv_0 : 0 ≤ b1.toInt) (hv_1 : b1.toInt ≤ 5) (hv_2 : 0 ≤ b2.toInt) (hv_3 : b2.toInt ≤ 40) (hv_4 : 0 ≤ v_V_0.toInt) (hv_5 : v_V_0.toInt ≤ 110) (hv_6 : 0 ≤ v_V_1.toInt) (hv_7 : v_V_1.toInt ≤ 110) (hv_8 : 0 ≤ v_V_5.toInt) (hv_9 : v_V_5.toInt ≤ 6) (hT_g_V_says : TA 0 9 g_V_says) (hT_g_V_off : TA 0 4 g_V_off) : Con l G (TY cI cJ cB cZ) yX7_leastWeight cX7_leastWeight 4 (some .int) ({ frames := 1, cells := 0, slots := 0, locals := 21 } : Room) [.ref a0, .int b1, .int b2] [(a0, .inr (7, [.int v_V_0, .int v_V_1, .int v_V_2, .ref a1, .ref a2, .int v_V_5, .ref a3, .ref a4, .ref a5, .ref a6, .ref a7, .ref a8, .ref a9, .ref a10, .ref a11])), (a4, .inl (cI, 6, .inl g_V_says)), (a6, .inl (cI, 6, .inl g_V_off)), (a9, .inl (cI, 6, .inl g_V_masterHigh)), (a8, .inl (cI, 6, .inl g_V_masterLow))] (QI G (TY cI cJ cB cZ) (fun (r : Int32) (u : Unit) => (1 ≤ r.toInt)) (fun u : Unit => [(a0, .inr (7, [.int v_V_0, .int v_V_1, .int v_V_2, .ref a1, .ref a2, .int v_V_5, .ref a3, .ref a4, .ref a5, .ref a6, .ref a7, .ref a8, .ref a9, .ref a10, .ref a11])), (a4, .inl (cI, 6, .inl g_V_says)), (a6, .inl (cI, 6, .inl g_V_off)), (a9, .inl (cI, 6, .inl g_V_masterHigh)), (a8, .inl (cI, 6, .inl g_V_masterLow))])) := by
  refine k_met (by decide) (Nat.le_of_ble_eq_true rfl) ?_
  intro p e s m below meth c A ls hC hr hlk hnm hN hZ hK hA hP hD hS hl
  have hl : lv_has ls 4 [(0, .ref a0), (1, .int b1), (2, .int b2)] := hl
  generalize hQm : MQ below _ _ s _ _ A = Qm
  generalize (List.toArray _ : Array Value) = args at hC hQm ⊢
  obtain ⟨hx, hb, hml, hown, hts⟩ := id hC
  obtain ⟨H, hH⟩ : ∃ q, q = s.heap := ⟨_, rfl⟩
  obtain ⟨locs, hlo⟩ : ∃ q : List Loc, q = [] := ⟨_, rfl⟩
  have hP : va_P G cl [(a0, .inr (7, [.int v_V_0, .int v_V_1, .int v_V_2, .ref a1, .ref a2, .int v_V_5, .ref a3, .ref a4, .ref a5, .ref a6, .ref a7, .ref a8, .ref a9, .ref a10, .ref a11])), (a4, .inl (cI, 6, .inl g_V_says)), (a6, .inl (cI, 6, .inl g_V_off)), (a9, .inl (cI, 6, .inl g_V_masterHigh)), (a8, .inl (cI, 6, .inl g_V_masterLow))] H := by rw [hH]; exact hP
  have hS : va_S A s.heap H locs := by rw [hH, hlo]; exact hS
  rw [← hlo]
  rw [← hH]
  refine lv_iconst (v := 1) hx hb dX7_leastWeight_0 (by decide) ?_
  refine lv_aload_n hx hb dX7_leastWeight_1 rfl (lv_at hl 0 rfl) ?_
  refine k_get hC hK hP iX7 0 7 wf_X7_22 rfl (by decide) rfl rfl dX7_leastWeight_2 ?_
  refine lv_iload_n hx hb dX7_leastWeight_5 rfl (lv_at hl 1 rfl) ?_
  refine t_iald hC hK hP 1 rfl (by omega) (by omega) hT_g_V_says dX7_leastWeight_6 (fun z1 tz1 => ?_)
  refine lv_iload_n hx hb dX7_leastWeight_7 rfl (lv_at hl 2 rfl) ?_
  refine lv_imul hx hb dX7_leastWeight_8 ?_
  refine t_i (fun q => 0 ≤ q.toInt ∧ q.toInt ≤ 360) (by have h_ := (mul_bd (X := z1.toInt) (Y := b2.toInt) (a := 9) (b := 40) (by omega) (by omega) (by omega) (by omega)); rw [mul_i (by omega) (by omega)]; omega) (fun z2 tz2 => ?_)
  refine lv_aload_n hx hb dX7_leastWeight_9 rfl (lv_at hl 0 rfl) ?_
  refine k_get hC hK hP iX7 0 9 wf_X7_28 rfl (by decide) rfl rfl dX7_leastWeight_10 ?_
  refine lv_iload_n hx hb dX7_leastWeight_13 rfl (lv_at hl 1 rfl) ?_
  refine t_iald hC hK hP 2 rfl (by omega) (by omega) hT_g_V_off dX7_leastWeight_14 (fun z3 tz3 => ?_)
  refine lv_isub hx hb dX7_leastWeight_15 ?_
  refine t_i (fun q => q.toInt = z2.toInt - z3.toInt) (sub_i (by show (-2147483648 : Int) ≤ z2.toInt - z3.toInt; omega) (by show z2.toInt - z3.toInt ≤ (2147483647 : Int); omega)) (fun z4 tz4 => ?_)
  refine va_mmax hx hb (hml.trans hl.1.symm) hown (hts _ wm_X7_82) (hts _ st_Mmax) (hts _ ini_Math) (hts _ co_Mmax) (Nat.le_of_ble_eq_true rfl) (Nat.le_of_ble_eq_true rfl) (Nat.le_of_ble_eq_true rfl) (Nat.le_of_ble_eq_true rfl) dX7_leastWeight_16 ?_
  refine t_i (fun q => 1 ≤ q.toInt ∧ z4.toInt ≤ q.toInt ∧ (q.toInt = 1 ∨ q.toInt = z4.toInt)) (max_b 1 z4) (fun z5 tz5 => ?_)
  refine lv_istore_n (lv' := [(3, .int z5), (0, .ref a0), (1, .int b1), (2, .int b2)]) hx hb dX7_leastWeight_19 rfl hl (by decide) rfl (fun ls hl => ?_)
  refine lv_aload_n hx hb dX7_leastWeight_20 rfl (lv_at hl 1 rfl) ?_
  refine lv_iload_n hx hb dX7_leastWeight_21 rfl (lv_at hl 2 rfl) ?_
  refine k_ci (wr := [(a4, .inl (cI, 6, .inl g_V_says)), (a6, .inl (cI, 6, .inl g_V_off)), (a8, .inl (cI, 6, .inl g_V_masterLow))]) (k_rV hC hN hZ hS hA hK hP hD (c27_X7_hasMaster l G cI cJ cB cZ a0 a1 a2 a3 a4 a5 a6 a7 a8 a9 a10 a11 b1 v_V_0 v_V_1 v_V_2 v_V_5 g_V_masterHigh hv_0 hv_1 hv_4 hv_5 hv_6 hv_7 hv_8 hv_9) [0, 3] rfl (by decide +kernel) mi_X7_hasMaster in_X7_hasMaster se_X7_hasMaster wm_X7_88 7 0 rfl rfl rfl hl.1 rfl rfl (Nat.le_of_ble_eq_true rfl) ⟨(Nat.le_of_ble_eq_true rfl), (Nat.le_of_ble_eq_true rfl)⟩ dX7_leastWeight_22 ⟨(Nat.le_of_ble_eq_true rfl), (Nat.le_of_ble_eq_true rfl)⟩) hP hD hS hA [0, 3] [1, 2, 4] rfl rfl (by decide +kernel) (by decide +kernel) (fun r6 u6 H locs hp hP hD hS => ?_)
  have hp : (0 ≤ r6.toInt ∧ r6.toInt ≤ 1) := hp
  have hP : va_P G cl [(a4, .inl (cI, 6, .inl g_V_says)), (a6, .inl (cI, 6, .inl g_V_off)), (a8, .inl (cI, 6, .inl g_V_masterLow)), (a0, .inr (7, [.int v_V_0, .int v_V_1, .int v_V_2, .ref a1, .ref a2, .int v_V_5, .ref a3, .ref a4, .ref a5, .ref a6, .ref a7, .ref a8, .ref a9, .ref a10, .ref a11])), (a9, .inl (cI, 6, .inl g_V_masterHigh))] H := hP
  have hD : va_D A [(a4, .inl (cI, 6, .inl g_V_says)), (a6, .inl (cI, 6, .inl g_V_off)), (a8, .inl (cI, 6, .inl g_V_masterLow)), (a0, .inr (7, [.int v_V_0, .int v_V_1, .int v_V_2, .ref a1, .ref a2, .int v_V_5, .ref a3, .ref a4, .ref a5, .ref a6, .ref a7, .ref a8, .ref a9, .ref a10, .ref a11])), (a9, .inl (cI, 6, .inl g_V_masterHigh))] := hD
  have hq6 := hp
  refine lv_if_eq (tgt := 41) hx hb dX7_leastWeight_25 (by decide) (fun c7 => ?_) (fun c7 => ?_)
  · have dc7 : r6.toInt = 0 := (fa_eq _ _).mp c7
    refine lv_iload_n hx hb dX7_leastWeight_41 rfl (lv_at hl 0 rfl) ?_
    rw [← hQm]
    exact k_iret hC hr hlk hK hP hD hS () [3, 0, 1, 4, 2] rfl (by decide +kernel) (show 1 ≤ z5.toInt from by omega) (Nat.le_of_ble_eq_true rfl) (Nat.le_of_ble_eq_true rfl) dX7_leastWeight_42
  · have dc7 : r6.toInt ≠ 0 := fa_ne c7
    refine lv_iload_n hx hb dX7_leastWeight_28 rfl (lv_at hl 0 rfl) ?_
    refine lv_aload_n hx hb dX7_leastWeight_29 rfl (lv_at hl 1 rfl) ?_
    refine k_get hC hK hP iX7 3 11 wf_X7_34 rfl (by decide) rfl rfl dX7_leastWeight_30 ?_
    refine lv_iload_n hx hb dX7_leastWeight_33 rfl (lv_at hl 2 rfl) ?_
    refine t_iald hC hK hP 2 rfl (by omega) (by omega) (TA.all _) dX7_leastWeight_34 (fun z8 tz8 => ?_)
    refine va_mmax hx hb (hml.trans hl.1.symm) hown (hts _ wm_X7_82) (hts _ st_Mmax) (hts _ ini_Math) (hts _ co_Mmax) (Nat.le_of_ble_eq_true rfl) (Nat.le_of_ble_eq_true rfl) (Nat.le_of_ble_eq_true rfl) (Nat.le_of_ble_eq_true rfl) dX7_leastWeight_35 ?_
    refine t_i (fun q => z5.toInt ≤ q.toInt ∧ z8.toInt ≤ q.toInt ∧ (q.toInt = z5.toInt ∨ q.toInt = z8.toInt)) (max_b z5 z8) (fun z9 tz9 => ?_)
    refine lv_goto (tgt := 42) hx hb dX7_leastWeight_38 (by decide) ?_
    rw [← hQm]
    exact k_iret hC hr hlk hK hP hD hS () [3, 0, 1, 4, 2] rfl (by decide +kernel) (show 1 ≤ z9.toInt from by omega) (Nat.le_of_ble_eq_true rfl) (Nat.le_of_ble_eq_true rfl) dX7_leastWeight_42
theorem dX7_mostWeight_0 : decode cX7_mostWeight 0 = .ok (.aload_n 0, 1) := by decide +kernel
theorem dX7_mostWeight_1 : decode cX7_mostWeight 1 = .ok (.getfield 22, 3) := by decide +kernel
theorem dX7_mostWeight_4 : decode cX7_mostWeight 4 = .ok (.iload_n 1, 1) := by decide +kernel
theorem dX7_mostWeight_5 : decode cX7_mostWeight 5 = .ok (.iaload, 1) := by decide +kernel
theorem dX7_mostWeight_6 : decode cX7_mostWeight 6 = .ok (.iload_n 2, 1) := by decide +kernel
theorem dX7_mostWeight_7 : decode cX7_mostWeight 7 = .ok (.imul, 1) := by decide +kernel
theorem dX7_mostWeight_8 : decode cX7_mostWeight 8 = .ok (.aload_n 0, 1) := by decide +kernel
theorem dX7_mostWeight_9 : decode cX7_mostWeight 9 = .ok (.getfield 28, 3) := by decide +kernel
theorem dX7_mostWeight_12 : decode cX7_mostWeight 12 = .ok (.iload_n 1, 1) := by decide +kernel
theorem dX7_mostWeight_13 : decode cX7_mostWeight 13 = .ok (.iaload, 1) := by decide +kernel
theorem dX7_mostWeight_14 : decode cX7_mostWeight 14 = .ok (.iadd, 1) := by decide +kernel
theorem dX7_mostWeight_15 : decode cX7_mostWeight 15 = .ok (.istore_n 3, 1) := by decide +kernel
theorem dX7_mostWeight_16 : decode cX7_mostWeight 16 = .ok (.aload_n 0, 1) := by decide +kernel
theorem dX7_mostWeight_17 : decode cX7_mostWeight 17 = .ok (.iload_n 1, 1) := by decide +kernel
theorem dX7_mostWeight_18 : decode cX7_mostWeight 18 = .ok (.invokevirtual 88, 3) := by decide +kernel
theorem dX7_mostWeight_21 : decode cX7_mostWeight 21 = .ok (.ifCond .eq 16, 3) := by decide +kernel
theorem dX7_mostWeight_37 : decode cX7_mostWeight 37 = .ok (.iload_n 3, 1) := by decide +kernel
theorem dX7_mostWeight_38 : decode cX7_mostWeight 38 = .ok (.ireturn, 1) := by decide +kernel
theorem dX7_mostWeight_24 : decode cX7_mostWeight 24 = .ok (.iload_n 3, 1) := by decide +kernel
theorem dX7_mostWeight_25 : decode cX7_mostWeight 25 = .ok (.aload_n 0, 1) := by decide +kernel
theorem dX7_mostWeight_26 : decode cX7_mostWeight 26 = .ok (.getfield 37, 3) := by decide +kernel
theorem dX7_mostWeight_29 : decode cX7_mostWeight 29 = .ok (.iload_n 1, 1) := by decide +kernel
theorem dX7_mostWeight_30 : decode cX7_mostWeight 30 = .ok (.iaload, 1) := by decide +kernel
theorem dX7_mostWeight_31 : decode cX7_mostWeight 31 = .ok (.invokestatic 92, 3) := by decide +kernel
set_option maxRecDepth 100000 in
theorem wm_X7_92 : Cond.methodLink RX7 92 Lib.Math.min.name ∈ gw := gm (List.mem_of_getElem? (i := 846) (by decide +kernel)) rfl
set_option maxRecDepth 100000 in
theorem st_Mmin : Cond.static Lib.Math.min.name ∈ gw := gm (List.mem_of_getElem? (i := 641) (by decide +kernel)) rfl
set_option maxRecDepth 100000 in
theorem co_Mmin : Cond.code Lib.Math.min.name Lib.Math.min.code 2 (some .int) ∈ gw := gm (List.mem_of_getElem? (i := 642) rfl) rfl
theorem dX7_mostWeight_34 : decode cX7_mostWeight 34 = .ok (.goto 4, 3) := by decide +kernel
set_option maxHeartbeats 4000000 in
set_option maxRecDepth 100000 in
theorem c29_X7_mostWeight (l : Launch) (G : va_G) (cI cJ cB cZ : ClassId) (a0 a1 a2 a3 a4 a5 a6 a7 a8 a9 a10 a11 : Nat) (b1 : Int32) (b2 : Int32) (v_V_0 : Int32) (v_V_1 : Int32) (v_V_2 : Int32) (v_V_5 : Int32) (g_V_says : Nat → Int32) (g_V_off : Nat → Int32) (g_V_masterHigh : Nat → Int32) (hv_0 : 0 ≤ b1.toInt) (hv_1 : b1.toInt ≤ 5) (hv_2 : 0 ≤ b2.toInt) (hv_3 : b2.toInt ≤ 40) (hv_4 : 0 ≤ v_V_0.toInt) (hv_5 : v_V_0.toInt ≤ 110) (hv_6 : 0 ≤ v_V_1.toInt) (hv_7 : v_V_1.toInt ≤ 110) (hv_8 : 0 ≤ v_V_5.toInt) (hv_9 : v_V_5.toInt ≤ 6) (hT_g_V_says : TA 0 9 g_V_says) (hT_g_V_off : TA 0 4 g_V_off) : Con l G (TY cI cJ cB cZ) yX7_mostWeight cX7_mostWeight 4 (some .int) ({ frames := 1, cells := 0, slots := 0, locals := 21 } : Room) [.ref a0, .int b1, .int b2] [(a0, .inr (7, [.int v_V_0, .int v_V_1, .int v_V_2, .ref a1, .ref a2, .int v_V_5, .ref a3, .ref a4, .ref a5, .ref a6, .ref a7, .ref a8, .ref a9, .ref a10, .ref a11])), (a4, .inl (cI, 6, .inl g_V_says)), (a6, .inl (cI, 6, .inl g_V_off)), (a9, .inl (cI, 6, .inl g_V_masterHigh))] (QI G (TY cI cJ cB cZ) (fun (r : Int32) (u : Unit) => (r.toInt ≤ 364)) (fun u : Unit => [(a0, .inr (7, [.int v_V_0, .int v_V_1, .int v_V_2, .ref a1, .ref a2, .int v_V_5, .ref a3, .ref a4, .ref a5, .ref a6, .ref a7, .ref a8, .ref a9, .ref a10, .ref a11])), (a4, .inl (cI, 6, .inl g_V_says)), (a6, .inl (cI, 6, .inl g_V_off)), (a9, .inl (cI, 6, .inl g_V_masterHigh))])) := by
  refine k_met (by decide) (Nat.le_of_ble_eq_true rfl) ?_
  intro p e s m below meth c A ls hC hr hlk hnm hN hZ hK hA hP hD hS hl
  have hl : lv_has ls 4 [(0, .ref a0), (1, .int b1), (2, .int b2)] := hl
  generalize hQm : MQ below _ _ s _ _ A = Qm
  generalize (List.toArray _ : Array Value) = args at hC hQm ⊢
  obtain ⟨hx, hb, hml, hown, hts⟩ := id hC
  obtain ⟨H, hH⟩ : ∃ q, q = s.heap := ⟨_, rfl⟩
  obtain ⟨locs, hlo⟩ : ∃ q : List Loc, q = [] := ⟨_, rfl⟩
  have hP : va_P G cl [(a0, .inr (7, [.int v_V_0, .int v_V_1, .int v_V_2, .ref a1, .ref a2, .int v_V_5, .ref a3, .ref a4, .ref a5, .ref a6, .ref a7, .ref a8, .ref a9, .ref a10, .ref a11])), (a4, .inl (cI, 6, .inl g_V_says)), (a6, .inl (cI, 6, .inl g_V_off)), (a9, .inl (cI, 6, .inl g_V_masterHigh))] H := by rw [hH]; exact hP
  have hS : va_S A s.heap H locs := by rw [hH, hlo]; exact hS
  rw [← hlo]
  rw [← hH]
  refine lv_aload_n hx hb dX7_mostWeight_0 rfl (lv_at hl 0 rfl) ?_
  refine k_get hC hK hP iX7 0 7 wf_X7_22 rfl (by decide) rfl rfl dX7_mostWeight_1 ?_
  refine lv_iload_n hx hb dX7_mostWeight_4 rfl (lv_at hl 1 rfl) ?_
  refine t_iald hC hK hP 1 rfl (by omega) (by omega) hT_g_V_says dX7_mostWeight_5 (fun z1 tz1 => ?_)
  refine lv_iload_n hx hb dX7_mostWeight_6 rfl (lv_at hl 2 rfl) ?_
  refine lv_imul hx hb dX7_mostWeight_7 ?_
  refine t_i (fun q => 0 ≤ q.toInt ∧ q.toInt ≤ 360) (by have h_ := (mul_bd (X := z1.toInt) (Y := b2.toInt) (a := 9) (b := 40) (by omega) (by omega) (by omega) (by omega)); rw [mul_i (by omega) (by omega)]; omega) (fun z2 tz2 => ?_)
  refine lv_aload_n hx hb dX7_mostWeight_8 rfl (lv_at hl 0 rfl) ?_
  refine k_get hC hK hP iX7 0 9 wf_X7_28 rfl (by decide) rfl rfl dX7_mostWeight_9 ?_
  refine lv_iload_n hx hb dX7_mostWeight_12 rfl (lv_at hl 1 rfl) ?_
  refine t_iald hC hK hP 2 rfl (by omega) (by omega) hT_g_V_off dX7_mostWeight_13 (fun z3 tz3 => ?_)
  refine lv_iadd hx hb dX7_mostWeight_14 ?_
  refine t_i (fun q => q.toInt = z2.toInt + z3.toInt) (add_i (by show (-2147483648 : Int) ≤ z2.toInt + z3.toInt; omega) (by show z2.toInt + z3.toInt ≤ (2147483647 : Int); omega)) (fun z4 tz4 => ?_)
  refine lv_istore_n (lv' := [(3, .int z4), (0, .ref a0), (1, .int b1), (2, .int b2)]) hx hb dX7_mostWeight_15 rfl hl (by decide) rfl (fun ls hl => ?_)
  refine lv_aload_n hx hb dX7_mostWeight_16 rfl (lv_at hl 1 rfl) ?_
  refine lv_iload_n hx hb dX7_mostWeight_17 rfl (lv_at hl 2 rfl) ?_
  refine k_ci (wr := [(a4, .inl (cI, 6, .inl g_V_says)), (a6, .inl (cI, 6, .inl g_V_off))]) (k_rV hC hN hZ hS hA hK hP hD (c27_X7_hasMaster l G cI cJ cB cZ a0 a1 a2 a3 a4 a5 a6 a7 a8 a9 a10 a11 b1 v_V_0 v_V_1 v_V_2 v_V_5 g_V_masterHigh hv_0 hv_1 hv_4 hv_5 hv_6 hv_7 hv_8 hv_9) [0, 3] rfl (by decide +kernel) mi_X7_hasMaster in_X7_hasMaster se_X7_hasMaster wm_X7_88 7 0 rfl rfl rfl hl.1 rfl rfl (Nat.le_of_ble_eq_true rfl) ⟨(Nat.le_of_ble_eq_true rfl), (Nat.le_of_ble_eq_true rfl)⟩ dX7_mostWeight_18 ⟨(Nat.le_of_ble_eq_true rfl), (Nat.le_of_ble_eq_true rfl)⟩) hP hD hS hA [0, 3] [1, 2] rfl rfl (by decide +kernel) (by decide +kernel) (fun r5 u5 H locs hp hP hD hS => ?_)
  have hp : (0 ≤ r5.toInt ∧ r5.toInt ≤ 1) := hp
  have hP : va_P G cl [(a4, .inl (cI, 6, .inl g_V_says)), (a6, .inl (cI, 6, .inl g_V_off)), (a0, .inr (7, [.int v_V_0, .int v_V_1, .int v_V_2, .ref a1, .ref a2, .int v_V_5, .ref a3, .ref a4, .ref a5, .ref a6, .ref a7, .ref a8, .ref a9, .ref a10, .ref a11])), (a9, .inl (cI, 6, .inl g_V_masterHigh))] H := hP
  have hD : va_D A [(a4, .inl (cI, 6, .inl g_V_says)), (a6, .inl (cI, 6, .inl g_V_off)), (a0, .inr (7, [.int v_V_0, .int v_V_1, .int v_V_2, .ref a1, .ref a2, .int v_V_5, .ref a3, .ref a4, .ref a5, .ref a6, .ref a7, .ref a8, .ref a9, .ref a10, .ref a11])), (a9, .inl (cI, 6, .inl g_V_masterHigh))] := hD
  have hq5 := hp
  refine lv_if_eq (tgt := 37) hx hb dX7_mostWeight_21 (by decide) (fun c6 => ?_) (fun c6 => ?_)
  · have dc6 : r5.toInt = 0 := (fa_eq _ _).mp c6
    refine lv_iload_n hx hb dX7_mostWeight_37 rfl (lv_at hl 0 rfl) ?_
    rw [← hQm]
    exact k_iret hC hr hlk hK hP hD hS () [2, 0, 1, 3] rfl (by decide +kernel) (show z4.toInt ≤ 364 from by omega) (Nat.le_of_ble_eq_true rfl) (Nat.le_of_ble_eq_true rfl) dX7_mostWeight_38
  · have dc6 : r5.toInt ≠ 0 := fa_ne c6
    refine lv_iload_n hx hb dX7_mostWeight_24 rfl (lv_at hl 0 rfl) ?_
    refine lv_aload_n hx hb dX7_mostWeight_25 rfl (lv_at hl 1 rfl) ?_
    refine k_get hC hK hP iX7 2 12 wf_X7_37 rfl (by decide) rfl rfl dX7_mostWeight_26 ?_
    refine lv_iload_n hx hb dX7_mostWeight_29 rfl (lv_at hl 2 rfl) ?_
    refine t_iald hC hK hP 3 rfl (by omega) (by omega) (TA.all _) dX7_mostWeight_30 (fun z7 tz7 => ?_)
    refine va_mmin hx hb (hml.trans hl.1.symm) hown (hts _ wm_X7_92) (hts _ st_Mmin) (hts _ ini_Math) (hts _ co_Mmin) (Nat.le_of_ble_eq_true rfl) (Nat.le_of_ble_eq_true rfl) (Nat.le_of_ble_eq_true rfl) (Nat.le_of_ble_eq_true rfl) dX7_mostWeight_31 ?_
    refine t_i (fun q => q.toInt ≤ z4.toInt ∧ q.toInt ≤ z7.toInt ∧ (q.toInt = z4.toInt ∨ q.toInt = z7.toInt)) (min_b z4 z7) (fun z8 tz8 => ?_)
    refine lv_goto (tgt := 38) hx hb dX7_mostWeight_34 (by decide) ?_
    rw [← hQm]
    exact k_iret hC hr hlk hK hP hD hS () [2, 0, 1, 3] rfl (by decide +kernel) (show z8.toInt ≤ 364 from by omega) (Nat.le_of_ble_eq_true rfl) (Nat.le_of_ble_eq_true rfl) dX7_mostWeight_38
theorem dX0_poundStep_0 : decode cX0_poundStep 0 = .ok (.lload_n 0, 1) := by decide +kernel
theorem dX0_poundStep_1 : decode cX0_poundStep 1 = .ok (.bipush 57, 2) := by decide +kernel
theorem dX0_poundStep_3 : decode cX0_poundStep 3 = .ok (.iconst 3, 1) := by decide +kernel
theorem dX0_poundStep_4 : decode cX0_poundStep 4 = .ok (.iload_n 2, 1) := by decide +kernel
theorem dX0_poundStep_5 : decode cX0_poundStep 5 = .ok (.imul, 1) := by decide +kernel
theorem dX0_poundStep_6 : decode cX0_poundStep 6 = .ok (.iadd, 1) := by decide +kernel
theorem dX0_poundStep_7 : decode cX0_poundStep 7 = .ok (.lshr, 1) := by decide +kernel
theorem dX0_poundStep_8 : decode cX0_poundStep 8 = .ok (.l2i, 1) := by decide +kernel
theorem dX0_poundStep_9 : decode cX0_poundStep 9 = .ok (.bipush 7, 2) := by decide +kernel
theorem dX0_poundStep_11 : decode cX0_poundStep 11 = .ok (.iand, 1) := by decide +kernel
theorem dX0_poundStep_12 : decode cX0_poundStep 12 = .ok (.ireturn, 1) := by decide +kernel
set_option maxHeartbeats 4000000 in
set_option maxRecDepth 100000 in
theorem c30_X0_poundStep (l : Launch) (G : va_G) (cI cJ cB cZ : ClassId) (b0 : Int64) (b1 : Int32) : Con l G (TY cI cJ cB cZ) yX0_poundStep cX0_poundStep 3 (some .int) ({ frames := 0, cells := 0, slots := 0, locals := 0 } : Room) [.long b0, .int b1] [] (QI G (TY cI cJ cB cZ) (fun (r : Int32) (u : Unit) => (0 ≤ r.toInt ∧ r.toInt ≤ 7)) (fun u : Unit => [])) := by
  refine k_met (by decide) (Nat.le_of_ble_eq_true rfl) ?_
  intro p e s m below meth c A ls hC hr hlk hnm hN hZ hK hA hP hD hS hl
  have hl : lv_has ls 3 [(0, .long b0), (2, .int b1)] := hl
  generalize hQm : MQ below _ _ s _ _ A = Qm
  generalize (List.toArray _ : Array Value) = args at hC hQm ⊢
  obtain ⟨hx, hb, hml, hown, hts⟩ := id hC
  obtain ⟨H, hH⟩ : ∃ q, q = s.heap := ⟨_, rfl⟩
  obtain ⟨locs, hlo⟩ : ∃ q : List Loc, q = [] := ⟨_, rfl⟩
  have hP : va_P G cl [] H := by rw [hH]; exact hP
  have hS : va_S A s.heap H locs := by rw [hH, hlo]; exact hS
  rw [← hlo]
  rw [← hH]
  refine lv_lload_n hx hb dX0_poundStep_0 rfl (lv_at hl 0 rfl) ?_
  refine lv_bipush (v := 57) hx hb dX0_poundStep_1 (by decide) ?_
  refine lv_iconst (v := 3) hx hb dX0_poundStep_3 (by decide) ?_
  refine lv_iload_n hx hb dX0_poundStep_4 rfl (lv_at hl 1 rfl) ?_
  refine lv_imul hx hb dX0_poundStep_5 ?_
  refine lv_topi (fun z1 _ => ?_)
  refine lv_iadd hx hb dX0_poundStep_6 ?_
  refine lv_topi (fun z2 _ => ?_)
  refine lv_lshr hx hb dX0_poundStep_7 rfl ?_
  refine t_l (fun y3 => ?_)
  refine lv_l2i hx hb dX0_poundStep_8 rfl ?_
  refine lv_topi (fun z4 _ => ?_)
  refine lv_bipush (v := 7) hx hb dX0_poundStep_9 (by decide) ?_
  refine lv_iand hx hb dX0_poundStep_11 ?_
  refine t_i (fun q => 0 ≤ q.toInt ∧ q.toInt ≤ 7) (by have h_ := and_b (x := z4) (y := 7) (by decide); exact h_) (fun z5 tz5 => ?_)
  rw [← hQm]
  exact k_iret hC hr hlk hK hP hD hS () [] rfl (by decide +kernel) (show 0 ≤ z5.toInt ∧ z5.toInt ≤ 7 from by omega) (Nat.le_of_ble_eq_true rfl) (Nat.le_of_ble_eq_true rfl) dX0_poundStep_12
theorem dX7_poundOf_0 : decode cX7_poundOf 0 = .ok (.iload_n 3, 1) := by decide +kernel
theorem dX7_poundOf_1 : decode cX7_poundOf 1 = .ok (.ifCond .lt 8, 3) := by decide +kernel
theorem dX7_poundOf_9 : decode cX7_poundOf 9 = .ok (.iconst (-1), 1) := by decide +kernel
theorem dX7_poundOf_10 : decode cX7_poundOf 10 = .ok (.ireturn, 1) := by decide +kernel
theorem dX7_poundOf_4 : decode cX7_poundOf 4 = .ok (.iload_n 3, 1) := by decide +kernel
theorem dX7_poundOf_5 : decode cX7_poundOf 5 = .ok (.iconst 2, 1) := by decide +kernel
theorem dX7_poundOf_6 : decode cX7_poundOf 6 = .ok (.if_icmp .lt 5, 3) := by decide +kernel
theorem dX7_poundOf_11 : decode cX7_poundOf 11 = .ok (.aload_n 0, 1) := by decide +kernel
theorem dX7_poundOf_12 : decode cX7_poundOf 12 = .ok (.getfield 9, 3) := by decide +kernel
theorem dX7_poundOf_15 : decode cX7_poundOf 15 = .ok (.iload_n 3, 1) := by decide +kernel
theorem dX7_poundOf_16 : decode cX7_poundOf 16 = .ok (.iaload, 1) := by decide +kernel
theorem dX7_poundOf_17 : decode cX7_poundOf 17 = .ok (.lload_n 1, 1) := by decide +kernel
theorem dX7_poundOf_18 : decode cX7_poundOf 18 = .ok (.iload_n 3, 1) := by decide +kernel
theorem dX7_poundOf_19 : decode cX7_poundOf 19 = .ok (.invokestatic 101, 3) := by decide +kernel
set_option maxRecDepth 100000 in
theorem wm_X7_101 : Cond.methodLink RX7 101 yX0_poundStep ∈ gw := gm (List.mem_of_getElem? (i := 953) (by decide +kernel)) rfl
set_option maxRecDepth 100000 in
theorem mi_X0_poundStep : MI yX0_poundStep cX0_poundStep 3 (some .int) 2 := ⟨gm (List.mem_of_getElem? (i := 955) rfl) rfl, gm (List.mem_of_getElem? (i := 121) (by decide +kernel)) rfl, by decide, by decide, by decide +kernel⟩
set_option maxRecDepth 100000 in
theorem st_X0_poundStep : Cond.static yX0_poundStep ∈ gw := gm (List.mem_of_getElem? (i := 954) (by decide +kernel)) rfl
theorem dX7_poundOf_22 : decode cX7_poundOf 22 = .ok (.iadd, 1) := by decide +kernel
theorem dX7_poundOf_23 : decode cX7_poundOf 23 = .ok (.ireturn, 1) := by decide +kernel
set_option maxHeartbeats 4000000 in
set_option maxRecDepth 100000 in
theorem c31_X7_poundOf (l : Launch) (G : va_G) (cI cJ cB cZ : ClassId) (a0 a1 a2 a3 a4 a5 a6 a7 a8 a9 a10 a11 : Nat) (b1 : Int64) (b2 : Int32) (v_V_0 : Int32) (v_V_1 : Int32) (v_V_2 : Int32) (v_V_5 : Int32) (g_V_poundLow : Nat → Int32) (hv_0 : 0 ≤ v_V_0.toInt) (hv_1 : v_V_0.toInt ≤ 110) (hv_2 : 0 ≤ v_V_1.toInt) (hv_3 : v_V_1.toInt ≤ 110) (hv_4 : 0 ≤ v_V_5.toInt) (hv_5 : v_V_5.toInt ≤ 6) (hT_g_V_poundLow : TA 0 40 g_V_poundLow) : Con l G (TY cI cJ cB cZ) yX7_poundOf cX7_poundOf 4 (some .int) ({ frames := 1, cells := 0, slots := 0, locals := 22 } : Room) [.ref a0, .long b1, .int b2] [(a0, .inr (7, [.int v_V_0, .int v_V_1, .int v_V_2, .ref a1, .ref a2, .int v_V_5, .ref a3, .ref a4, .ref a5, .ref a6, .ref a7, .ref a8, .ref a9, .ref a10, .ref a11])), (a1, .inl (cI, 2, .inl g_V_poundLow))] (QI G (TY cI cJ cB cZ) (fun (r : Int32) (u : Unit) => ((-1) ≤ r.toInt ∧ r.toInt ≤ 47)) (fun u : Unit => [(a0, .inr (7, [.int v_V_0, .int v_V_1, .int v_V_2, .ref a1, .ref a2, .int v_V_5, .ref a3, .ref a4, .ref a5, .ref a6, .ref a7, .ref a8, .ref a9, .ref a10, .ref a11])), (a1, .inl (cI, 2, .inl g_V_poundLow))])) := by
  refine k_met (by decide) (Nat.le_of_ble_eq_true rfl) ?_
  intro p e s m below meth c A ls hC hr hlk hnm hN hZ hK hA hP hD hS hl
  have hl : lv_has ls 4 [(0, .ref a0), (1, .long b1), (3, .int b2)] := hl
  generalize hQm : MQ below _ _ s _ _ A = Qm
  generalize (List.toArray _ : Array Value) = args at hC hQm ⊢
  obtain ⟨hx, hb, hml, hown, hts⟩ := id hC
  obtain ⟨H, hH⟩ : ∃ q, q = s.heap := ⟨_, rfl⟩
  obtain ⟨locs, hlo⟩ : ∃ q : List Loc, q = [] := ⟨_, rfl⟩
  have hP : va_P G cl [(a0, .inr (7, [.int v_V_0, .int v_V_1, .int v_V_2, .ref a1, .ref a2, .int v_V_5, .ref a3, .ref a4, .ref a5, .ref a6, .ref a7, .ref a8, .ref a9, .ref a10, .ref a11])), (a1, .inl (cI, 2, .inl g_V_poundLow))] H := by rw [hH]; exact hP
  have hS : va_S A s.heap H locs := by rw [hH, hlo]; exact hS
  rw [← hlo]
  rw [← hH]
  refine lv_iload_n hx hb dX7_poundOf_0 rfl (lv_at hl 2 rfl) ?_
  refine lv_if_lt (tgt := 9) hx hb dX7_poundOf_1 (by decide) (fun c1 => ?_) (fun c1 => ?_)
  · have dc1 : b2.toInt < 0 := (fa_lt _ _).mp c1; have lbc1_0 := i_lo b2; have ubc1_0 := i_hi b2
    refine lv_iconst (v := (-1)) hx hb dX7_poundOf_9 (by decide) ?_
    have l_l2 : ((-1) : Int32).toInt = (-1) := rfl
    rw [← hQm]
    exact k_iret hC hr hlk hK hP hD hS () [0, 1] rfl (by decide +kernel) (show (-1) ≤ ((-1) : Int32).toInt ∧ ((-1) : Int32).toInt ≤ 47 from by omega) (Nat.le_of_ble_eq_true rfl) (Nat.le_of_ble_eq_true rfl) dX7_poundOf_10
  · have dc1 : 0 ≤ b2.toInt := fa_nlt c1; have lbc1_0 := i_lo b2; have ubc1_0 := i_hi b2
    refine lv_iload_n hx hb dX7_poundOf_4 rfl (lv_at hl 2 rfl) ?_
    refine lv_iconst (v := 2) hx hb dX7_poundOf_5 (by decide) ?_
    refine lv_icmp_lt (tgt := 11) hx hb dX7_poundOf_6 (by decide) (fun c3 => ?_) (fun c3 => ?_)
    · have dc3 : b2.toInt < 2 := (fa_lt _ _).mp c3; have ubc3_0 := i_hi b2
      refine lv_aload_n hx hb dX7_poundOf_11 rfl (lv_at hl 0 rfl) ?_
      refine k_get hC hK hP iX7 0 3 wf_X7_9 rfl (by decide) rfl rfl dX7_poundOf_12 ?_
      refine lv_iload_n hx hb dX7_poundOf_15 rfl (lv_at hl 2 rfl) ?_
      refine t_iald hC hK hP 1 rfl (by omega) (by omega) hT_g_V_poundLow dX7_poundOf_16 (fun z4 tz4 => ?_)
      refine lv_lload_n hx hb dX7_poundOf_17 rfl (lv_at hl 1 rfl) ?_
      refine lv_iload_n hx hb dX7_poundOf_18 rfl (lv_at hl 2 rfl) ?_
      refine k_ci (wr := [(a0, .inr (7, [.int v_V_0, .int v_V_1, .int v_V_2, .ref a1, .ref a2, .int v_V_5, .ref a3, .ref a4, .ref a5, .ref a6, .ref a7, .ref a8, .ref a9, .ref a10, .ref a11])), (a1, .inl (cI, 2, .inl g_V_poundLow))]) (k_rS hC hN hZ hS hA hK hP hD (c30_X0_poundStep l G cI cJ cB cZ b1 b2) [] rfl (by decide +kernel) mi_X0_poundStep st_X0_poundStep wm_X7_101 hl.1 rfl rfl (Nat.le_of_ble_eq_true rfl) ⟨(Nat.le_of_ble_eq_true rfl), (Nat.le_of_ble_eq_true rfl)⟩ dX7_poundOf_19 ⟨(Nat.le_of_ble_eq_true rfl), (Nat.le_of_ble_eq_true rfl)⟩) hP hD hS hA [] [0, 1] rfl rfl (by decide +kernel) (by decide +kernel) (fun r5 u5 H locs hp hP hD hS => ?_)
      have hp : (0 ≤ r5.toInt ∧ r5.toInt ≤ 7) := hp
      have hP : va_P G cl [(a0, .inr (7, [.int v_V_0, .int v_V_1, .int v_V_2, .ref a1, .ref a2, .int v_V_5, .ref a3, .ref a4, .ref a5, .ref a6, .ref a7, .ref a8, .ref a9, .ref a10, .ref a11])), (a1, .inl (cI, 2, .inl g_V_poundLow))] H := hP
      have hD : va_D A [(a0, .inr (7, [.int v_V_0, .int v_V_1, .int v_V_2, .ref a1, .ref a2, .int v_V_5, .ref a3, .ref a4, .ref a5, .ref a6, .ref a7, .ref a8, .ref a9, .ref a10, .ref a11])), (a1, .inl (cI, 2, .inl g_V_poundLow))] := hD
      have hq5 := hp
      refine lv_iadd hx hb dX7_poundOf_22 ?_
      refine t_i (fun q => q.toInt = z4.toInt + r5.toInt) (add_i (by show (-2147483648 : Int) ≤ z4.toInt + r5.toInt; omega) (by show z4.toInt + r5.toInt ≤ (2147483647 : Int); omega)) (fun z6 tz6 => ?_)
      rw [← hQm]
      exact k_iret hC hr hlk hK hP hD hS () [0, 1] rfl (by decide +kernel) (show (-1) ≤ z6.toInt ∧ z6.toInt ≤ 47 from by omega) (Nat.le_of_ble_eq_true rfl) (Nat.le_of_ble_eq_true rfl) dX7_poundOf_23
    · have dc3 : 2 ≤ b2.toInt := fa_nlt c3; have ubc3_0 := i_hi b2
      refine lv_iconst (v := (-1)) hx hb dX7_poundOf_9 (by decide) ?_
      have l_l7 : ((-1) : Int32).toInt = (-1) := rfl
      rw [← hQm]
      exact k_iret hC hr hlk hK hP hD hS () [0, 1] rfl (by decide +kernel) (show (-1) ≤ ((-1) : Int32).toInt ∧ ((-1) : Int32).toInt ≤ 47 from by omega) (Nat.le_of_ble_eq_true rfl) (Nat.le_of_ble_eq_true rfl) dX7_poundOf_10
theorem dX0_weightOf_0 : decode cX0_weightOf 0 = .ok (.lload_n 0, 1) := by decide +kernel
theorem dX0_weightOf_1 : decode cX0_weightOf 1 = .ok (.bipush 9, 2) := by decide +kernel
theorem dX0_weightOf_3 : decode cX0_weightOf 3 = .ok (.iload_n 2, 1) := by decide +kernel
theorem dX0_weightOf_4 : decode cX0_weightOf 4 = .ok (.imul, 1) := by decide +kernel
theorem dX0_weightOf_5 : decode cX0_weightOf 5 = .ok (.lshr, 1) := by decide +kernel
theorem dX0_weightOf_6 : decode cX0_weightOf 6 = .ok (.l2i, 1) := by decide +kernel
theorem dX0_weightOf_7 : decode cX0_weightOf 7 = .ok (.sipush 511, 3) := by decide +kernel
theorem dX0_weightOf_10 : decode cX0_weightOf 10 = .ok (.iand, 1) := by decide +kernel
theorem dX0_weightOf_11 : decode cX0_weightOf 11 = .ok (.ireturn, 1) := by decide +kernel
set_option maxHeartbeats 4000000 in
set_option maxRecDepth 100000 in
theorem c32_X0_weightOf (l : Launch) (G : va_G) (cI cJ cB cZ : ClassId) (b0 : Int64) (b1 : Int32) : Con l G (TY cI cJ cB cZ) yX0_weightOf cX0_weightOf 3 (some .int) ({ frames := 0, cells := 0, slots := 0, locals := 0 } : Room) [.long b0, .int b1] [] (QI G (TY cI cJ cB cZ) (fun (r : Int32) (u : Unit) => (0 ≤ r.toInt ∧ r.toInt ≤ 511)) (fun u : Unit => [])) := by
  refine k_met (by decide) (Nat.le_of_ble_eq_true rfl) ?_
  intro p e s m below meth c A ls hC hr hlk hnm hN hZ hK hA hP hD hS hl
  have hl : lv_has ls 3 [(0, .long b0), (2, .int b1)] := hl
  generalize hQm : MQ below _ _ s _ _ A = Qm
  generalize (List.toArray _ : Array Value) = args at hC hQm ⊢
  obtain ⟨hx, hb, hml, hown, hts⟩ := id hC
  obtain ⟨H, hH⟩ : ∃ q, q = s.heap := ⟨_, rfl⟩
  obtain ⟨locs, hlo⟩ : ∃ q : List Loc, q = [] := ⟨_, rfl⟩
  have hP : va_P G cl [] H := by rw [hH]; exact hP
  have hS : va_S A s.heap H locs := by rw [hH, hlo]; exact hS
  rw [← hlo]
  rw [← hH]
  refine lv_lload_n hx hb dX0_weightOf_0 rfl (lv_at hl 0 rfl) ?_
  refine lv_bipush (v := 9) hx hb dX0_weightOf_1 (by decide) ?_
  refine lv_iload_n hx hb dX0_weightOf_3 rfl (lv_at hl 1 rfl) ?_
  refine lv_imul hx hb dX0_weightOf_4 ?_
  refine lv_topi (fun z1 _ => ?_)
  refine lv_lshr hx hb dX0_weightOf_5 rfl ?_
  refine t_l (fun y2 => ?_)
  refine lv_l2i hx hb dX0_weightOf_6 rfl ?_
  refine lv_topi (fun z3 _ => ?_)
  refine lv_sipush (v := 511) hx hb dX0_weightOf_7 (by decide) ?_
  refine lv_iand hx hb dX0_weightOf_10 ?_
  refine t_i (fun q => 0 ≤ q.toInt ∧ q.toInt ≤ 511) (by have h_ := and_b (x := z3) (y := 511) (by decide); exact h_) (fun z4 tz4 => ?_)
  rw [← hQm]
  exact k_iret hC hr hlk hK hP hD hS () [] rfl (by decide +kernel) (show 0 ≤ z4.toInt ∧ z4.toInt ≤ 511 from by omega) (Nat.le_of_ble_eq_true rfl) (Nat.le_of_ble_eq_true rfl) dX0_weightOf_11
theorem dX0_armStep_0 : decode cX0_armStep 0 = .ok (.lload_n 0, 1) := by decide +kernel
theorem dX0_armStep_1 : decode cX0_armStep 1 = .ok (.bipush 54, 2) := by decide +kernel
theorem dX0_armStep_3 : decode cX0_armStep 3 = .ok (.lshr, 1) := by decide +kernel
theorem dX0_armStep_4 : decode cX0_armStep 4 = .ok (.l2i, 1) := by decide +kernel
theorem dX0_armStep_5 : decode cX0_armStep 5 = .ok (.bipush 7, 2) := by decide +kernel
theorem dX0_armStep_7 : decode cX0_armStep 7 = .ok (.iand, 1) := by decide +kernel
theorem dX0_armStep_8 : decode cX0_armStep 8 = .ok (.ireturn, 1) := by decide +kernel
set_option maxHeartbeats 4000000 in
set_option maxRecDepth 100000 in
theorem c33_X0_armStep (l : Launch) (G : va_G) (cI cJ cB cZ : ClassId) (b0 : Int64) : Con l G (TY cI cJ cB cZ) yX0_armStep cX0_armStep 2 (some .int) ({ frames := 0, cells := 0, slots := 0, locals := 0 } : Room) [.long b0] [] (QI G (TY cI cJ cB cZ) (fun (r : Int32) (u : Unit) => (0 ≤ r.toInt ∧ r.toInt ≤ 7)) (fun u : Unit => [])) := by
  refine k_met (by decide) (Nat.le_of_ble_eq_true rfl) ?_
  intro p e s m below meth c A ls hC hr hlk hnm hN hZ hK hA hP hD hS hl
  have hl : lv_has ls 2 [(0, .long b0)] := hl
  generalize hQm : MQ below _ _ s _ _ A = Qm
  generalize (List.toArray _ : Array Value) = args at hC hQm ⊢
  obtain ⟨hx, hb, hml, hown, hts⟩ := id hC
  obtain ⟨H, hH⟩ : ∃ q, q = s.heap := ⟨_, rfl⟩
  obtain ⟨locs, hlo⟩ : ∃ q : List Loc, q = [] := ⟨_, rfl⟩
  have hP : va_P G cl [] H := by rw [hH]; exact hP
  have hS : va_S A s.heap H locs := by rw [hH, hlo]; exact hS
  rw [← hlo]
  rw [← hH]
  refine lv_lload_n hx hb dX0_armStep_0 rfl (lv_at hl 0 rfl) ?_
  refine lv_bipush (v := 54) hx hb dX0_armStep_1 (by decide) ?_
  refine lv_lshr hx hb dX0_armStep_3 rfl ?_
  refine t_l (fun y1 => ?_)
  refine lv_l2i hx hb dX0_armStep_4 rfl ?_
  refine lv_topi (fun z2 _ => ?_)
  refine lv_bipush (v := 7) hx hb dX0_armStep_5 (by decide) ?_
  refine lv_iand hx hb dX0_armStep_7 ?_
  refine t_i (fun q => 0 ≤ q.toInt ∧ q.toInt ≤ 7) (by have h_ := and_b (x := z2) (y := 7) (by decide); exact h_) (fun z3 tz3 => ?_)
  rw [← hQm]
  exact k_iret hC hr hlk hK hP hD hS () [] rfl (by decide +kernel) (show 0 ≤ z3.toInt ∧ z3.toInt ≤ 7 from by omega) (Nat.le_of_ble_eq_true rfl) (Nat.le_of_ble_eq_true rfl) dX0_armStep_8
theorem dX7_armOf_0 : decode cX7_armOf 0 = .ok (.aload_n 0, 1) := by decide +kernel
theorem dX7_armOf_1 : decode cX7_armOf 1 = .ok (.getfield 59, 3) := by decide +kernel
theorem dX7_armOf_4 : decode cX7_armOf 4 = .ok (.lload_n 1, 1) := by decide +kernel
theorem dX7_armOf_5 : decode cX7_armOf 5 = .ok (.invokestatic 95, 3) := by decide +kernel
set_option maxRecDepth 100000 in
theorem wm_X7_95 : Cond.methodLink RX7 95 yX0_armStep ∈ gw := gm (List.mem_of_getElem? (i := 946) (by decide +kernel)) rfl
set_option maxRecDepth 100000 in
theorem mi_X0_armStep : MI yX0_armStep cX0_armStep 2 (some .int) 1 := ⟨gm (List.mem_of_getElem? (i := 948) rfl) rfl, gm (List.mem_of_getElem? (i := 121) (by decide +kernel)) rfl, by decide, by decide, by decide +kernel⟩
set_option maxRecDepth 100000 in
theorem st_X0_armStep : Cond.static yX0_armStep ∈ gw := gm (List.mem_of_getElem? (i := 947) (by decide +kernel)) rfl
theorem dX7_armOf_8 : decode cX7_armOf 8 = .ok (.iadd, 1) := by decide +kernel
theorem dX7_armOf_9 : decode cX7_armOf 9 = .ok (.ireturn, 1) := by decide +kernel
set_option maxHeartbeats 4000000 in
set_option maxRecDepth 100000 in
theorem c34_X7_armOf (l : Launch) (G : va_G) (cI cJ cB cZ : ClassId) (a0 a1 a2 a3 a4 a5 a6 a7 a8 a9 a10 a11 : Nat) (b1 : Int64) (v_V_0 : Int32) (v_V_1 : Int32) (v_V_2 : Int32) (v_V_5 : Int32) (hv_0 : 0 ≤ v_V_0.toInt) (hv_1 : v_V_0.toInt ≤ 110) (hv_2 : 0 ≤ v_V_1.toInt) (hv_3 : v_V_1.toInt ≤ 110) (hv_4 : 0 ≤ v_V_5.toInt) (hv_5 : v_V_5.toInt ≤ 6) : Con l G (TY cI cJ cB cZ) yX7_armOf cX7_armOf 3 (some .int) ({ frames := 1, cells := 0, slots := 0, locals := 21 } : Room) [.ref a0, .long b1] [(a0, .inr (7, [.int v_V_0, .int v_V_1, .int v_V_2, .ref a1, .ref a2, .int v_V_5, .ref a3, .ref a4, .ref a5, .ref a6, .ref a7, .ref a8, .ref a9, .ref a10, .ref a11]))] (QI G (TY cI cJ cB cZ) (fun (r : Int32) (u : Unit) => (0 ≤ r.toInt ∧ r.toInt ≤ 117)) (fun u : Unit => [(a0, .inr (7, [.int v_V_0, .int v_V_1, .int v_V_2, .ref a1, .ref a2, .int v_V_5, .ref a3, .ref a4, .ref a5, .ref a6, .ref a7, .ref a8, .ref a9, .ref a10, .ref a11]))])) := by
  refine k_met (by decide) (Nat.le_of_ble_eq_true rfl) ?_
  intro p e s m below meth c A ls hC hr hlk hnm hN hZ hK hA hP hD hS hl
  have hl : lv_has ls 3 [(0, .ref a0), (1, .long b1)] := hl
  generalize hQm : MQ below _ _ s _ _ A = Qm
  generalize (List.toArray _ : Array Value) = args at hC hQm ⊢
  obtain ⟨hx, hb, hml, hown, hts⟩ := id hC
  obtain ⟨H, hH⟩ : ∃ q, q = s.heap := ⟨_, rfl⟩
  obtain ⟨locs, hlo⟩ : ∃ q : List Loc, q = [] := ⟨_, rfl⟩
  have hP : va_P G cl [(a0, .inr (7, [.int v_V_0, .int v_V_1, .int v_V_2, .ref a1, .ref a2, .int v_V_5, .ref a3, .ref a4, .ref a5, .ref a6, .ref a7, .ref a8, .ref a9, .ref a10, .ref a11]))] H := by rw [hH]; exact hP
  have hS : va_S A s.heap H locs := by rw [hH, hlo]; exact hS
  rw [← hlo]
  rw [← hH]
  refine lv_aload_n hx hb dX7_armOf_0 rfl (lv_at hl 0 rfl) ?_
  refine k_get hC hK hP iX7 0 0 wf_X7_59 rfl (by decide) rfl rfl dX7_armOf_1 ?_
  refine lv_lload_n hx hb dX7_armOf_4 rfl (lv_at hl 1 rfl) ?_
  refine k_ci (wr := [(a0, .inr (7, [.int v_V_0, .int v_V_1, .int v_V_2, .ref a1, .ref a2, .int v_V_5, .ref a3, .ref a4, .ref a5, .ref a6, .ref a7, .ref a8, .ref a9, .ref a10, .ref a11]))]) (k_rS hC hN hZ hS hA hK hP hD (c33_X0_armStep l G cI cJ cB cZ b1) [] rfl (by decide +kernel) mi_X0_armStep st_X0_armStep wm_X7_95 hl.1 rfl rfl (Nat.le_of_ble_eq_true rfl) ⟨(Nat.le_of_ble_eq_true rfl), (Nat.le_of_ble_eq_true rfl)⟩ dX7_armOf_5 ⟨(Nat.le_of_ble_eq_true rfl), (Nat.le_of_ble_eq_true rfl)⟩) hP hD hS hA [] [0] rfl rfl (by decide +kernel) (by decide +kernel) (fun r1 u1 H locs hp hP hD hS => ?_)
  have hp : (0 ≤ r1.toInt ∧ r1.toInt ≤ 7) := hp
  have hP : va_P G cl [(a0, .inr (7, [.int v_V_0, .int v_V_1, .int v_V_2, .ref a1, .ref a2, .int v_V_5, .ref a3, .ref a4, .ref a5, .ref a6, .ref a7, .ref a8, .ref a9, .ref a10, .ref a11]))] H := hP
  have hD : va_D A [(a0, .inr (7, [.int v_V_0, .int v_V_1, .int v_V_2, .ref a1, .ref a2, .int v_V_5, .ref a3, .ref a4, .ref a5, .ref a6, .ref a7, .ref a8, .ref a9, .ref a10, .ref a11]))] := hD
  have hq1 := hp
  refine lv_iadd hx hb dX7_armOf_8 ?_
  refine t_i (fun q => q.toInt = v_V_0.toInt + r1.toInt) (add_i (by show (-2147483648 : Int) ≤ v_V_0.toInt + r1.toInt; omega) (by show v_V_0.toInt + r1.toInt ≤ (2147483647 : Int); omega)) (fun z2 tz2 => ?_)
  rw [← hQm]
  exact k_iret hC hr hlk hK hP hD hS () [0] rfl (by decide +kernel) (show 0 ≤ z2.toInt ∧ z2.toInt ≤ 117 from by omega) (Nat.le_of_ble_eq_true rfl) (Nat.le_of_ble_eq_true rfl) dX7_armOf_9
theorem dX7_partOf_0 : decode cX7_partOf 0 = .ok (.iload_n 3, 1) := by decide +kernel
theorem dX7_partOf_1 : decode cX7_partOf 1 = .ok (.ifCond .gt 9, 3) := by decide +kernel
theorem dX7_partOf_10 : decode cX7_partOf 10 = .ok (.iload_n 3, 1) := by decide +kernel
theorem dX7_partOf_11 : decode cX7_partOf 11 = .ok (.iconst 3, 1) := by decide +kernel
theorem dX7_partOf_12 : decode cX7_partOf 12 = .ok (.if_icmp .ge 12, 3) := by decide +kernel
theorem dX7_partOf_24 : decode cX7_partOf 24 = .ok (.lload_n 1, 1) := by decide +kernel
theorem dX7_partOf_25 : decode cX7_partOf 25 = .ok (.iload_n 3, 1) := by decide +kernel
theorem dX7_partOf_26 : decode cX7_partOf 26 = .ok (.iconst 3, 1) := by decide +kernel
theorem dX7_partOf_27 : decode cX7_partOf 27 = .ok (.isub, 1) := by decide +kernel
theorem dX7_partOf_28 : decode cX7_partOf 28 = .ok (.invokestatic 111, 3) := by decide +kernel
set_option maxRecDepth 100000 in
theorem wm_X7_111 : Cond.methodLink RX7 111 yX0_weightOf ∈ gw := gm (List.mem_of_getElem? (i := 956) (by decide +kernel)) rfl
set_option maxRecDepth 100000 in
theorem mi_X0_weightOf : MI yX0_weightOf cX0_weightOf 3 (some .int) 2 := ⟨gm (List.mem_of_getElem? (i := 958) rfl) rfl, gm (List.mem_of_getElem? (i := 121) (by decide +kernel)) rfl, by decide, by decide, by decide +kernel⟩
set_option maxRecDepth 100000 in
theorem st_X0_weightOf : Cond.static yX0_weightOf ∈ gw := gm (List.mem_of_getElem? (i := 957) (by decide +kernel)) rfl
theorem dX7_partOf_31 : decode cX7_partOf 31 = .ok (.ireturn, 1) := by decide +kernel
theorem dX7_partOf_15 : decode cX7_partOf 15 = .ok (.aload_n 0, 1) := by decide +kernel
theorem dX7_partOf_16 : decode cX7_partOf 16 = .ok (.lload_n 1, 1) := by decide +kernel
theorem dX7_partOf_17 : decode cX7_partOf 17 = .ok (.iload_n 3, 1) := by decide +kernel
theorem dX7_partOf_18 : decode cX7_partOf 18 = .ok (.iconst 1, 1) := by decide +kernel
theorem dX7_partOf_19 : decode cX7_partOf 19 = .ok (.isub, 1) := by decide +kernel
theorem dX7_partOf_20 : decode cX7_partOf 20 = .ok (.invokevirtual 108, 3) := by decide +kernel
set_option maxRecDepth 100000 in
theorem wm_X7_108 : Cond.methodLink RX7 108 yX7_poundOf ∈ gw := gm (List.mem_of_getElem? (i := 949) (by decide +kernel)) rfl
set_option maxRecDepth 100000 in
theorem mi_X7_poundOf : MI yX7_poundOf cX7_poundOf 4 (some .int) 2 := ⟨gm (List.mem_of_getElem? (i := 952) rfl) rfl, gm (List.mem_of_getElem? (i := 113) (by decide +kernel)) rfl, by decide, by decide, by decide +kernel⟩
set_option maxRecDepth 100000 in
theorem in_X7_poundOf : Cond.instanceMethod yX7_poundOf ∈ gw := gm (List.mem_of_getElem? (i := 950) (by decide +kernel)) rfl
set_option maxRecDepth 100000 in
theorem se_X7_poundOf : Cond.selects yX7_poundOf.cls yX7_poundOf yX7_poundOf ∈ gw := gm (List.mem_of_getElem? (i := 951) (by decide +kernel)) rfl
theorem dX7_partOf_23 : decode cX7_partOf 23 = .ok (.ireturn, 1) := by decide +kernel
theorem dX7_partOf_4 : decode cX7_partOf 4 = .ok (.aload_n 0, 1) := by decide +kernel
theorem dX7_partOf_5 : decode cX7_partOf 5 = .ok (.lload_n 1, 1) := by decide +kernel
theorem dX7_partOf_6 : decode cX7_partOf 6 = .ok (.invokevirtual 105, 3) := by decide +kernel
set_option maxRecDepth 100000 in
theorem wm_X7_105 : Cond.methodLink RX7 105 yX7_armOf ∈ gw := gm (List.mem_of_getElem? (i := 942) (by decide +kernel)) rfl
set_option maxRecDepth 100000 in
theorem mi_X7_armOf : MI yX7_armOf cX7_armOf 3 (some .int) 1 := ⟨gm (List.mem_of_getElem? (i := 945) rfl) rfl, gm (List.mem_of_getElem? (i := 113) (by decide +kernel)) rfl, by decide, by decide, by decide +kernel⟩
set_option maxRecDepth 100000 in
theorem in_X7_armOf : Cond.instanceMethod yX7_armOf ∈ gw := gm (List.mem_of_getElem? (i := 943) (by decide +kernel)) rfl
set_option maxRecDepth 100000 in
theorem se_X7_armOf : Cond.selects yX7_armOf.cls yX7_armOf yX7_armOf ∈ gw := gm (List.mem_of_getElem? (i := 944) (by decide +kernel)) rfl
theorem dX7_partOf_9 : decode cX7_partOf 9 = .ok (.ireturn, 1) := by decide +kernel
set_option maxHeartbeats 4000000 in
set_option maxRecDepth 100000 in
theorem c35_X7_partOf (l : Launch) (G : va_G) (cI cJ cB cZ : ClassId) (a0 a1 a2 a3 a4 a5 a6 a7 a8 a9 a10 a11 : Nat) (b1 : Int64) (b2 : Int32) (v_V_0 : Int32) (v_V_1 : Int32) (v_V_2 : Int32) (v_V_5 : Int32) (g_V_poundLow : Nat → Int32) (hv_0 : 0 ≤ v_V_0.toInt) (hv_1 : v_V_0.toInt ≤ 110) (hv_2 : 0 ≤ v_V_1.toInt) (hv_3 : v_V_1.toInt ≤ 110) (hv_4 : 0 ≤ v_V_5.toInt) (hv_5 : v_V_5.toInt ≤ 6) (hT_g_V_poundLow : TA 0 40 g_V_poundLow) : Con l G (TY cI cJ cB cZ) yX7_partOf cX7_partOf 4 (some .int) ({ frames := 2, cells := 0, slots := 0, locals := 45 } : Room) [.ref a0, .long b1, .int b2] [(a0, .inr (7, [.int v_V_0, .int v_V_1, .int v_V_2, .ref a1, .ref a2, .int v_V_5, .ref a3, .ref a4, .ref a5, .ref a6, .ref a7, .ref a8, .ref a9, .ref a10, .ref a11])), (a1, .inl (cI, 2, .inl g_V_poundLow))] (QI G (TY cI cJ cB cZ) (fun (r : Int32) (u : Unit) => ((-1) ≤ r.toInt ∧ r.toInt ≤ 511)) (fun u : Unit => [(a0, .inr (7, [.int v_V_0, .int v_V_1, .int v_V_2, .ref a1, .ref a2, .int v_V_5, .ref a3, .ref a4, .ref a5, .ref a6, .ref a7, .ref a8, .ref a9, .ref a10, .ref a11])), (a1, .inl (cI, 2, .inl g_V_poundLow))])) := by
  refine k_met (by decide) (Nat.le_of_ble_eq_true rfl) ?_
  intro p e s m below meth c A ls hC hr hlk hnm hN hZ hK hA hP hD hS hl
  have hl : lv_has ls 4 [(0, .ref a0), (1, .long b1), (3, .int b2)] := hl
  generalize hQm : MQ below _ _ s _ _ A = Qm
  generalize (List.toArray _ : Array Value) = args at hC hQm ⊢
  obtain ⟨hx, hb, hml, hown, hts⟩ := id hC
  obtain ⟨H, hH⟩ : ∃ q, q = s.heap := ⟨_, rfl⟩
  obtain ⟨locs, hlo⟩ : ∃ q : List Loc, q = [] := ⟨_, rfl⟩
  have hP : va_P G cl [(a0, .inr (7, [.int v_V_0, .int v_V_1, .int v_V_2, .ref a1, .ref a2, .int v_V_5, .ref a3, .ref a4, .ref a5, .ref a6, .ref a7, .ref a8, .ref a9, .ref a10, .ref a11])), (a1, .inl (cI, 2, .inl g_V_poundLow))] H := by rw [hH]; exact hP
  have hS : va_S A s.heap H locs := by rw [hH, hlo]; exact hS
  rw [← hlo]
  rw [← hH]
  refine lv_iload_n hx hb dX7_partOf_0 rfl (lv_at hl 2 rfl) ?_
  refine lv_if_gt (tgt := 10) hx hb dX7_partOf_1 (by decide) (fun c1 => ?_) (fun c1 => ?_)
  · have dc1 : 0 < b2.toInt := (fa_lt _ _).mp c1; have lbc1_1 := i_lo b2; have ubc1_1 := i_hi b2
    refine lv_iload_n hx hb dX7_partOf_10 rfl (lv_at hl 2 rfl) ?_
    refine lv_iconst (v := 3) hx hb dX7_partOf_11 (by decide) ?_
    refine lv_icmp_ge (tgt := 24) hx hb dX7_partOf_12 (by decide) (fun c2 => ?_) (fun c2 => ?_)
    · have dc2 : 3 ≤ b2.toInt := (fa_le _ _).mp c2; have ubc2_1 := i_hi b2
      refine lv_lload_n hx hb dX7_partOf_24 rfl (lv_at hl 1 rfl) ?_
      refine lv_iload_n hx hb dX7_partOf_25 rfl (lv_at hl 2 rfl) ?_
      refine lv_iconst (v := 3) hx hb dX7_partOf_26 (by decide) ?_
      refine lv_isub hx hb dX7_partOf_27 ?_
      have ubz3_0 := i_hi b2
      refine t_i (fun q => q.toInt = b2.toInt - 3) (sub_i (by have q_ := i_hi b2; show (-2147483648 : Int) ≤ b2.toInt - 3; omega) (by have q_ := i_hi b2; show b2.toInt - 3 ≤ (2147483647 : Int); omega)) (fun z3 tz3 => ?_)
      refine k_ci (wr := [(a0, .inr (7, [.int v_V_0, .int v_V_1, .int v_V_2, .ref a1, .ref a2, .int v_V_5, .ref a3, .ref a4, .ref a5, .ref a6, .ref a7, .ref a8, .ref a9, .ref a10, .ref a11])), (a1, .inl (cI, 2, .inl g_V_poundLow))]) (k_rS hC hN hZ hS hA hK hP hD (c32_X0_weightOf l G cI cJ cB cZ b1 z3) [] rfl (by decide +kernel) mi_X0_weightOf st_X0_weightOf wm_X7_111 hl.1 rfl rfl (Nat.le_of_ble_eq_true rfl) ⟨(Nat.le_of_ble_eq_true rfl), (Nat.le_of_ble_eq_true rfl)⟩ dX7_partOf_28 ⟨(Nat.le_of_ble_eq_true rfl), (Nat.le_of_ble_eq_true rfl)⟩) hP hD hS hA [] [0, 1] rfl rfl (by decide +kernel) (by decide +kernel) (fun r4 u4 H locs hp hP hD hS => ?_)
      have hp : (0 ≤ r4.toInt ∧ r4.toInt ≤ 511) := hp
      have hP : va_P G cl [(a0, .inr (7, [.int v_V_0, .int v_V_1, .int v_V_2, .ref a1, .ref a2, .int v_V_5, .ref a3, .ref a4, .ref a5, .ref a6, .ref a7, .ref a8, .ref a9, .ref a10, .ref a11])), (a1, .inl (cI, 2, .inl g_V_poundLow))] H := hP
      have hD : va_D A [(a0, .inr (7, [.int v_V_0, .int v_V_1, .int v_V_2, .ref a1, .ref a2, .int v_V_5, .ref a3, .ref a4, .ref a5, .ref a6, .ref a7, .ref a8, .ref a9, .ref a10, .ref a11])), (a1, .inl (cI, 2, .inl g_V_poundLow))] := hD
      have hq4 := hp
      rw [← hQm]
      exact k_iret hC hr hlk hK hP hD hS () [0, 1] rfl (by decide +kernel) (show (-1) ≤ r4.toInt ∧ r4.toInt ≤ 511 from by omega) (Nat.le_of_ble_eq_true rfl) (Nat.le_of_ble_eq_true rfl) dX7_partOf_31
    · have dc2 : b2.toInt < 3 := fa_nle c2; have ubc2_1 := i_hi b2
      refine lv_aload_n hx hb dX7_partOf_15 rfl (lv_at hl 0 rfl) ?_
      refine lv_lload_n hx hb dX7_partOf_16 rfl (lv_at hl 1 rfl) ?_
      refine lv_iload_n hx hb dX7_partOf_17 rfl (lv_at hl 2 rfl) ?_
      refine lv_iconst (v := 1) hx hb dX7_partOf_18 (by decide) ?_
      refine lv_isub hx hb dX7_partOf_19 ?_
      refine t_i (fun q => q.toInt = b2.toInt - 1) (sub_i (by show (-2147483648 : Int) ≤ b2.toInt - 1; omega) (by show b2.toInt - 1 ≤ (2147483647 : Int); omega)) (fun z5 tz5 => ?_)
      refine k_ci (wr := []) (k_rV hC hN hZ hS hA hK hP hD (c31_X7_poundOf l G cI cJ cB cZ a0 a1 a2 a3 a4 a5 a6 a7 a8 a9 a10 a11 b1 z5 v_V_0 v_V_1 v_V_2 v_V_5 g_V_poundLow hv_0 hv_1 hv_2 hv_3 hv_4 hv_5 hT_g_V_poundLow) [0, 1] rfl (by decide +kernel) mi_X7_poundOf in_X7_poundOf se_X7_poundOf wm_X7_108 7 0 rfl rfl rfl hl.1 rfl rfl (Nat.le_of_ble_eq_true rfl) ⟨(Nat.le_of_ble_eq_true rfl), (Nat.le_of_ble_eq_true rfl)⟩ dX7_partOf_20 ⟨(Nat.le_of_ble_eq_true rfl), (Nat.le_of_ble_eq_true rfl)⟩) hP hD hS hA [0, 1] [] rfl rfl (by decide +kernel) (by decide +kernel) (fun r6 u6 H locs hp hP hD hS => ?_)
      have hp : ((-1) ≤ r6.toInt ∧ r6.toInt ≤ 47) := hp
      have hP : va_P G cl [(a0, .inr (7, [.int v_V_0, .int v_V_1, .int v_V_2, .ref a1, .ref a2, .int v_V_5, .ref a3, .ref a4, .ref a5, .ref a6, .ref a7, .ref a8, .ref a9, .ref a10, .ref a11])), (a1, .inl (cI, 2, .inl g_V_poundLow))] H := hP
      have hD : va_D A [(a0, .inr (7, [.int v_V_0, .int v_V_1, .int v_V_2, .ref a1, .ref a2, .int v_V_5, .ref a3, .ref a4, .ref a5, .ref a6, .ref a7, .ref a8, .ref a9, .ref a10, .ref a11])), (a1, .inl (cI, 2, .inl g_V_poundLow))] := hD
      have hq6 := hp
      rw [← hQm]
      exact k_iret hC hr hlk hK hP hD hS () [0, 1] rfl (by decide +kernel) (show (-1) ≤ r6.toInt ∧ r6.toInt ≤ 511 from by omega) (Nat.le_of_ble_eq_true rfl) (Nat.le_of_ble_eq_true rfl) dX7_partOf_23
  · have dc1 : b2.toInt ≤ 0 := fa_nlt c1; have lbc1_1 := i_lo b2; have ubc1_1 := i_hi b2
    refine lv_aload_n hx hb dX7_partOf_4 rfl (lv_at hl 0 rfl) ?_
    refine lv_lload_n hx hb dX7_partOf_5 rfl (lv_at hl 1 rfl) ?_
    refine k_ci (wr := [(a1, .inl (cI, 2, .inl g_V_poundLow))]) (k_rV hC hN hZ hS hA hK hP hD (c34_X7_armOf l G cI cJ cB cZ a0 a1 a2 a3 a4 a5 a6 a7 a8 a9 a10 a11 b1 v_V_0 v_V_1 v_V_2 v_V_5 hv_0 hv_1 hv_2 hv_3 hv_4 hv_5) [0] rfl (by decide +kernel) mi_X7_armOf in_X7_armOf se_X7_armOf wm_X7_105 7 0 rfl rfl rfl hl.1 rfl rfl (Nat.le_of_ble_eq_true rfl) ⟨(Nat.le_of_ble_eq_true rfl), (Nat.le_of_ble_eq_true rfl)⟩ dX7_partOf_6 ⟨(Nat.le_of_ble_eq_true rfl), (Nat.le_of_ble_eq_true rfl)⟩) hP hD hS hA [0] [1] rfl rfl (by decide +kernel) (by decide +kernel) (fun r7 u7 H locs hp hP hD hS => ?_)
    have hp : (0 ≤ r7.toInt ∧ r7.toInt ≤ 117) := hp
    have hP : va_P G cl [(a1, .inl (cI, 2, .inl g_V_poundLow)), (a0, .inr (7, [.int v_V_0, .int v_V_1, .int v_V_2, .ref a1, .ref a2, .int v_V_5, .ref a3, .ref a4, .ref a5, .ref a6, .ref a7, .ref a8, .ref a9, .ref a10, .ref a11]))] H := hP
    have hD : va_D A [(a1, .inl (cI, 2, .inl g_V_poundLow)), (a0, .inr (7, [.int v_V_0, .int v_V_1, .int v_V_2, .ref a1, .ref a2, .int v_V_5, .ref a3, .ref a4, .ref a5, .ref a6, .ref a7, .ref a8, .ref a9, .ref a10, .ref a11]))] := hD
    have hq7 := hp
    rw [← hQm]
    exact k_iret hC hr hlk hK hP hD hS () [1, 0] rfl (by decide +kernel) (show (-1) ≤ r7.toInt ∧ r7.toInt ≤ 511 from by omega) (Nat.le_of_ble_eq_true rfl) (Nat.le_of_ble_eq_true rfl) dX7_partOf_9
theorem dX7_haveOf_0 : decode cX7_haveOf 0 = .ok (.iconst 0, 1) := by decide +kernel
theorem dX7_haveOf_1 : decode cX7_haveOf 1 = .ok (.istore 5, 2) := by decide +kernel
theorem dX7_haveOf_3 : decode cX7_haveOf 3 = .ok (.iconst 0, 1) := by decide +kernel
theorem dX7_haveOf_4 : decode cX7_haveOf 4 = .ok (.istore 6, 2) := by decide +kernel
theorem dX7_haveOf_6 : decode cX7_haveOf 6 = .ok (.iload 6, 2) := by decide +kernel
theorem dX7_haveOf_8 : decode cX7_haveOf 8 = .ok (.aload_n 0, 1) := by decide +kernel
theorem dX7_haveOf_9 : decode cX7_haveOf 9 = .ok (.getfield 75, 3) := by decide +kernel
theorem dX7_haveOf_12 : decode cX7_haveOf 12 = .ok (.if_icmp .ge 44, 3) := by decide +kernel
theorem dX7_haveOf_56 : decode cX7_haveOf 56 = .ok (.iload 5, 2) := by decide +kernel
theorem dX7_haveOf_58 : decode cX7_haveOf 58 = .ok (.ireturn, 1) := by decide +kernel
theorem dX7_haveOf_15 : decode cX7_haveOf 15 = .ok (.iload_n 3, 1) := by decide +kernel
theorem dX7_haveOf_16 : decode cX7_haveOf 16 = .ok (.iload 6, 2) := by decide +kernel
theorem dX7_haveOf_18 : decode cX7_haveOf 18 = .ok (.ishr, 1) := by decide +kernel
theorem dX7_haveOf_19 : decode cX7_haveOf 19 = .ok (.iconst 1, 1) := by decide +kernel
theorem dX7_haveOf_20 : decode cX7_haveOf 20 = .ok (.iand, 1) := by decide +kernel
theorem dX7_haveOf_21 : decode cX7_haveOf 21 = .ok (.ifCond .eq 29, 3) := by decide +kernel
theorem dX7_haveOf_50 : decode cX7_haveOf 50 = .ok (.iinc 6 1, 3) := by decide +kernel
theorem dX7_haveOf_53 : decode cX7_haveOf 53 = .ok (.goto (-47), 3) := by decide +kernel
theorem dX7_haveOf_24 : decode cX7_haveOf 24 = .ok (.iload 5, 2) := by decide +kernel
theorem dX7_haveOf_26 : decode cX7_haveOf 26 = .ok (.iconst 0, 1) := by decide +kernel
theorem dX7_haveOf_27 : decode cX7_haveOf 27 = .ok (.lload_n 1, 1) := by decide +kernel
theorem dX7_haveOf_28 : decode cX7_haveOf 28 = .ok (.iload 6, 2) := by decide +kernel
theorem dX7_haveOf_30 : decode cX7_haveOf 30 = .ok (.invokestatic 111, 3) := by decide +kernel
theorem dX7_haveOf_33 : decode cX7_haveOf 33 = .ok (.aload_n 0, 1) := by decide +kernel
theorem dX7_haveOf_34 : decode cX7_haveOf 34 = .ok (.getfield 31, 3) := by decide +kernel
set_option maxRecDepth 100000 in
theorem wf_X7_31 : Cond.fieldLink RX7 31 "StoneTrust$Village" "worn" "[I" ∈ gw := gm (List.mem_of_getElem? (i := 252) (by decide +kernel)) rfl
theorem dX7_haveOf_37 : decode cX7_haveOf 37 = .ok (.iload 6, 2) := by decide +kernel
theorem dX7_haveOf_39 : decode cX7_haveOf 39 = .ok (.iaload, 1) := by decide +kernel
theorem dX7_haveOf_40 : decode cX7_haveOf 40 = .ok (.iload 4, 2) := by decide +kernel
theorem dX7_haveOf_42 : decode cX7_haveOf 42 = .ok (.imul, 1) := by decide +kernel
theorem dX7_haveOf_43 : decode cX7_haveOf 43 = .ok (.isub, 1) := by decide +kernel
theorem dX7_haveOf_44 : decode cX7_haveOf 44 = .ok (.invokestatic 82, 3) := by decide +kernel
theorem dX7_haveOf_47 : decode cX7_haveOf 47 = .ok (.iadd, 1) := by decide +kernel
theorem dX7_haveOf_48 : decode cX7_haveOf 48 = .ok (.istore 5, 2) := by decide +kernel
set_option maxHeartbeats 4000000 in
set_option maxRecDepth 100000 in
theorem c36_X7_haveOf (l : Launch) (G : va_G) (cI cJ cB cZ : ClassId) (a0 a1 a2 a3 a4 a5 a6 a7 a8 a9 a10 a11 : Nat) (b1 : Int64) (b2 : Int32) (b3 : Int32) (v_V_0 : Int32) (v_V_1 : Int32) (v_V_2 : Int32) (v_V_5 : Int32) (g_V_worn : Nat → Int32) (hv_0 : 0 ≤ v_V_0.toInt) (hv_1 : v_V_0.toInt ≤ 110) (hv_2 : 0 ≤ v_V_1.toInt) (hv_3 : v_V_1.toInt ≤ 110) (hv_4 : 0 ≤ v_V_5.toInt) (hv_5 : v_V_5.toInt ≤ 6) : Con l G (TY cI cJ cB cZ) yX7_haveOf cX7_haveOf 7 (some .int) ({ frames := 1, cells := 0, slots := 0, locals := 22 } : Room) [.ref a0, .long b1, .int b2, .int b3] [(a0, .inr (7, [.int v_V_0, .int v_V_1, .int v_V_2, .ref a1, .ref a2, .int v_V_5, .ref a3, .ref a4, .ref a5, .ref a6, .ref a7, .ref a8, .ref a9, .ref a10, .ref a11])), (a7, .inl (cI, 6, .inl g_V_worn))] (QI G (TY cI cJ cB cZ) (fun (r : Int32) (u : Unit) => (True)) (fun u : Unit => [(a0, .inr (7, [.int v_V_0, .int v_V_1, .int v_V_2, .ref a1, .ref a2, .int v_V_5, .ref a3, .ref a4, .ref a5, .ref a6, .ref a7, .ref a8, .ref a9, .ref a10, .ref a11])), (a7, .inl (cI, 6, .inl g_V_worn))])) := by
  refine k_met (by decide) (Nat.le_of_ble_eq_true rfl) ?_
  intro p e s m below meth c A ls hC hr hlk hnm hN hZ hK hA hP hD hS hl
  have hl : lv_has ls 7 [(0, .ref a0), (1, .long b1), (3, .int b2), (4, .int b3)] := hl
  generalize hQm : MQ below _ _ s _ _ A = Qm
  generalize (List.toArray _ : Array Value) = args at hC hQm ⊢
  obtain ⟨hx, hb, hml, hown, hts⟩ := id hC
  obtain ⟨H, hH⟩ : ∃ q, q = s.heap := ⟨_, rfl⟩
  obtain ⟨locs, hlo⟩ : ∃ q : List Loc, q = [] := ⟨_, rfl⟩
  have hP : va_P G cl [(a0, .inr (7, [.int v_V_0, .int v_V_1, .int v_V_2, .ref a1, .ref a2, .int v_V_5, .ref a3, .ref a4, .ref a5, .ref a6, .ref a7, .ref a8, .ref a9, .ref a10, .ref a11])), (a7, .inl (cI, 6, .inl g_V_worn))] H := by rw [hH]; exact hP
  have hS : va_S A s.heap H locs := by rw [hH, hlo]; exact hS
  rw [← hlo]
  rw [← hH]
  refine lv_iconst (v := 0) hx hb dX7_haveOf_0 (by decide) ?_
  refine lv_istore (lv' := [(5, .int 0), (0, .ref a0), (1, .long b1), (3, .int b2), (4, .int b3)]) hx hb dX7_haveOf_1 hl (by decide) rfl (fun ls hl => ?_)
  refine lv_iconst (v := 0) hx hb dX7_haveOf_3 (by decide) ?_
  refine lv_istore (lv' := [(6, .int 0), (5, .int 0), (0, .ref a0), (1, .long b1), (3, .int b2), (4, .int b3)]) hx hb dX7_haveOf_4 hl (by decide) rfl (fun ls hl => ?_)
  have L_6 : ∀ (n : Nat) (x1 : Int32) (x2 : Int32) (H : Heap) (locs : List Loc) (ls : Array Slot), (0 ≤ x1.toInt ∧ x1.toInt ≤ 6) → 6 - x1.toInt < (n : Int) → va_P G cl [(a0, .inr (7, [.int v_V_0, .int v_V_1, .int v_V_2, .ref a1, .ref a2, .int v_V_5, .ref a3, .ref a4, .ref a5, .ref a6, .ref a7, .ref a8, .ref a9, .ref a10, .ref a11])), (a7, .inl (cI, 6, .inl g_V_worn))] H → va_D A [(a0, .inr (7, [.int v_V_0, .int v_V_1, .int v_V_2, .ref a1, .ref a2, .int v_V_5, .ref a3, .ref a4, .ref a5, .ref a6, .ref a7, .ref a8, .ref a9, .ref a10, .ref a11])), (a7, .inl (cI, 6, .inl g_V_worn))] → va_S A s.heap H locs → lv_has ls 7 [(0, .ref a0), (1, .long b1), (3, .int b2), (4, .int b3), (5, .int x2), (6, .int x1)] → W p l e ({ frames := 1, cells := 0, slots := 0, locals := 22 } : Room) s m args below meth c H locs 0 0 Qm (F0 m 6 ls []) := by
    intro n
    induction n with
    | zero => intro x1 x2 H locs ls hv hm; omega
    | succ n ih =>
      intro x1 x2 H locs ls hv hm hP hD hS hl
      refine lv_iload hx hb dX7_haveOf_6 (lv_at hl 5 rfl) ?_
      refine lv_aload_n hx hb dX7_haveOf_8 rfl (lv_at hl 0 rfl) ?_
      refine k_get hC hK hP iX7 0 5 wf_X7_75 rfl (by decide) rfl rfl dX7_haveOf_9 ?_
      refine lv_icmp_ge (tgt := 56) hx hb dX7_haveOf_12 (by decide) (fun c3 => ?_) (fun c3 => ?_)
      · have dc3 : v_V_5.toInt ≤ x1.toInt := (fa_le _ _).mp c3
        refine lv_iload hx hb dX7_haveOf_56 (lv_at hl 4 rfl) ?_
        rw [← hQm]
        exact k_iret hC hr hlk hK hP hD hS () [0, 1] rfl (by decide +kernel) trivial (Nat.le_of_ble_eq_true rfl) (Nat.le_of_ble_eq_true rfl) dX7_haveOf_58
      · have dc3 : x1.toInt < v_V_5.toInt := fa_nle c3
        refine lv_iload_n hx hb dX7_haveOf_15 rfl (lv_at hl 2 rfl) ?_
        refine lv_iload hx hb dX7_haveOf_16 (lv_at hl 5 rfl) ?_
        refine lv_ishr hx hb dX7_haveOf_18 ?_
        refine lv_topi (fun z4 _ => ?_)
        refine lv_iconst (v := 1) hx hb dX7_haveOf_19 (by decide) ?_
        refine lv_iand hx hb dX7_haveOf_20 ?_
        refine t_i (fun q => 0 ≤ q.toInt ∧ q.toInt ≤ 1) (by have h_ := and_b (x := z4) (y := 1) (by decide); exact h_) (fun z5 tz5 => ?_)
        refine lv_if_eq (tgt := 50) hx hb dX7_haveOf_21 (by decide) (fun c6 => ?_) (fun c6 => ?_)
        · have dc6 : z5.toInt = 0 := (fa_eq _ _).mp c6
          obtain ⟨z7, ez7⟩ : ∃ q : Int32, q = x1 + Int32.ofInt 1 := ⟨_, rfl⟩
          have tz7 : z7.toInt = x1.toInt + 1 := by rw [ez7]; exact add_i (y := 1) (by have p_ := i_lo x1; show _ ≤ _ + (1 : Int); omega) (by have q_ := i_hi x1; show _ + (1 : Int) ≤ _; omega)
          refine lv_iinc (v := z7) (lv' := [(6, .int z7), (0, .ref a0), (1, .long b1), (3, .int b2), (4, .int b3), (5, .int x2)]) hx hb dX7_haveOf_50 hl (k := 5) rfl ez7.symm (by decide) rfl (fun ls hl => ?_)
          refine lv_goto (tgt := 6) hx hb dX7_haveOf_53 (by decide) ?_
          exact ih  z7 x2 H locs ls (by omega) (by omega) (hP.subm [0, 1] rfl) (hD.sub [0, 1] (by decide +kernel) rfl) hS (lv_sub hl [1, 2, 3, 4, 5, 0] rfl)
        · have dc6 : z5.toInt ≠ 0 := fa_ne c6
          refine lv_iload hx hb dX7_haveOf_24 (lv_at hl 4 rfl) ?_
          refine lv_iconst (v := 0) hx hb dX7_haveOf_26 (by decide) ?_
          refine lv_lload_n hx hb dX7_haveOf_27 rfl (lv_at hl 1 rfl) ?_
          refine lv_iload hx hb dX7_haveOf_28 (lv_at hl 5 rfl) ?_
          refine k_ci (wr := [(a0, .inr (7, [.int v_V_0, .int v_V_1, .int v_V_2, .ref a1, .ref a2, .int v_V_5, .ref a3, .ref a4, .ref a5, .ref a6, .ref a7, .ref a8, .ref a9, .ref a10, .ref a11])), (a7, .inl (cI, 6, .inl g_V_worn))]) (k_rS hC hN hZ hS hA hK hP hD (c32_X0_weightOf l G cI cJ cB cZ b1 x1) [] rfl (by decide +kernel) mi_X0_weightOf st_X0_weightOf wm_X7_111 hl.1 rfl rfl (Nat.le_of_ble_eq_true rfl) ⟨(Nat.le_of_ble_eq_true rfl), (Nat.le_of_ble_eq_true rfl)⟩ dX7_haveOf_30 ⟨(Nat.le_of_ble_eq_true rfl), (Nat.le_of_ble_eq_true rfl)⟩) hP hD hS hA [] [0, 1] rfl rfl (by decide +kernel) (by decide +kernel) (fun r8 u8 H locs hp hP hD hS => ?_)
          have hp : (0 ≤ r8.toInt ∧ r8.toInt ≤ 511) := hp
          have hP : va_P G cl [(a0, .inr (7, [.int v_V_0, .int v_V_1, .int v_V_2, .ref a1, .ref a2, .int v_V_5, .ref a3, .ref a4, .ref a5, .ref a6, .ref a7, .ref a8, .ref a9, .ref a10, .ref a11])), (a7, .inl (cI, 6, .inl g_V_worn))] H := hP
          have hD : va_D A [(a0, .inr (7, [.int v_V_0, .int v_V_1, .int v_V_2, .ref a1, .ref a2, .int v_V_5, .ref a3, .ref a4, .ref a5, .ref a6, .ref a7, .ref a8, .ref a9, .ref a10, .ref a11])), (a7, .inl (cI, 6, .inl g_V_worn))] := hD
          have hq8 := hp
          refine lv_aload_n hx hb dX7_haveOf_33 rfl (lv_at hl 0 rfl) ?_
          refine k_get hC hK hP iX7 0 10 wf_X7_31 rfl (by decide) rfl rfl dX7_haveOf_34 ?_
          refine lv_iload hx hb dX7_haveOf_37 (lv_at hl 5 rfl) ?_
          refine t_iald hC hK hP 1 rfl (by omega) (by omega) (TA.all _) dX7_haveOf_39 (fun z9 tz9 => ?_)
          refine lv_iload hx hb dX7_haveOf_40 (lv_at hl 3 rfl) ?_
          refine lv_imul hx hb dX7_haveOf_42 ?_
          refine lv_topi (fun z10 _ => ?_)
          refine lv_isub hx hb dX7_haveOf_43 ?_
          refine lv_topi (fun z11 _ => ?_)
          refine va_mmax hx hb (hml.trans hl.1.symm) hown (hts _ wm_X7_82) (hts _ st_Mmax) (hts _ ini_Math) (hts _ co_Mmax) (Nat.le_of_ble_eq_true rfl) (Nat.le_of_ble_eq_true rfl) (Nat.le_of_ble_eq_true rfl) (Nat.le_of_ble_eq_true rfl) dX7_haveOf_44 ?_
          refine t_i (fun q => 0 ≤ q.toInt ∧ z11.toInt ≤ q.toInt ∧ (q.toInt = 0 ∨ q.toInt = z11.toInt)) (max_b 0 z11) (fun z12 tz12 => ?_)
          refine lv_iadd hx hb dX7_haveOf_47 ?_
          refine lv_topi (fun z13 _ => ?_)
          refine lv_istore (lv' := [(5, .int z13), (0, .ref a0), (1, .long b1), (3, .int b2), (4, .int b3), (6, .int x1)]) hx hb dX7_haveOf_48 hl (by decide) rfl (fun ls hl => ?_)
          obtain ⟨z14, ez14⟩ : ∃ q : Int32, q = x1 + Int32.ofInt 1 := ⟨_, rfl⟩
          have tz14 : z14.toInt = x1.toInt + 1 := by rw [ez14]; exact add_i (y := 1) (by have p_ := i_lo x1; show _ ≤ _ + (1 : Int); omega) (by have q_ := i_hi x1; show _ + (1 : Int) ≤ _; omega)
          refine lv_iinc (v := z14) (lv' := [(6, .int z14), (5, .int z13), (0, .ref a0), (1, .long b1), (3, .int b2), (4, .int b3)]) hx hb dX7_haveOf_50 hl (k := 5) rfl ez14.symm (by decide) rfl (fun ls hl => ?_)
          refine lv_goto (tgt := 6) hx hb dX7_haveOf_53 (by decide) ?_
          exact ih  z14 z13 H locs ls (by omega) (by omega) (hP.subm [0, 1] rfl) (hD.sub [0, 1] (by decide +kernel) rfl) hS (lv_sub hl [2, 3, 4, 5, 1, 0] rfl)
  have l_l15 : (0 : Int32).toInt = 0 := rfl
  exact L_6 7 0 0 H locs ls (by omega) (by omega) (hP.subm [0, 1] rfl) (hD.sub [0, 1] (by decide +kernel) rfl) hS (lv_sub hl [2, 3, 4, 5, 1, 0] rfl)
theorem dX7_saidOf_0 : decode cX7_saidOf 0 = .ok (.iconst 0, 1) := by decide +kernel
theorem dX7_saidOf_1 : decode cX7_saidOf 1 = .ok (.istore 4, 2) := by decide +kernel
theorem dX7_saidOf_3 : decode cX7_saidOf 3 = .ok (.iconst 0, 1) := by decide +kernel
theorem dX7_saidOf_4 : decode cX7_saidOf 4 = .ok (.istore 5, 2) := by decide +kernel
theorem dX7_saidOf_6 : decode cX7_saidOf 6 = .ok (.iload 5, 2) := by decide +kernel
theorem dX7_saidOf_8 : decode cX7_saidOf 8 = .ok (.aload_n 0, 1) := by decide +kernel
theorem dX7_saidOf_9 : decode cX7_saidOf 9 = .ok (.getfield 75, 3) := by decide +kernel
theorem dX7_saidOf_12 : decode cX7_saidOf 12 = .ok (.if_icmp .ge 43, 3) := by decide +kernel
theorem dX7_saidOf_55 : decode cX7_saidOf 55 = .ok (.iload 4, 2) := by decide +kernel
theorem dX7_saidOf_57 : decode cX7_saidOf 57 = .ok (.ireturn, 1) := by decide +kernel
theorem dX7_saidOf_15 : decode cX7_saidOf 15 = .ok (.iload_n 3, 1) := by decide +kernel
theorem dX7_saidOf_16 : decode cX7_saidOf 16 = .ok (.iload 5, 2) := by decide +kernel
theorem dX7_saidOf_18 : decode cX7_saidOf 18 = .ok (.ishr, 1) := by decide +kernel
theorem dX7_saidOf_19 : decode cX7_saidOf 19 = .ok (.iconst 1, 1) := by decide +kernel
theorem dX7_saidOf_20 : decode cX7_saidOf 20 = .ok (.iand, 1) := by decide +kernel
theorem dX7_saidOf_21 : decode cX7_saidOf 21 = .ok (.ifCond .eq 28, 3) := by decide +kernel
theorem dX7_saidOf_49 : decode cX7_saidOf 49 = .ok (.iinc 5 1, 3) := by decide +kernel
theorem dX7_saidOf_52 : decode cX7_saidOf 52 = .ok (.goto (-46), 3) := by decide +kernel
theorem dX7_saidOf_24 : decode cX7_saidOf 24 = .ok (.iload 4, 2) := by decide +kernel
theorem dX7_saidOf_26 : decode cX7_saidOf 26 = .ok (.aload_n 0, 1) := by decide +kernel
theorem dX7_saidOf_27 : decode cX7_saidOf 27 = .ok (.getfield 22, 3) := by decide +kernel
theorem dX7_saidOf_30 : decode cX7_saidOf 30 = .ok (.iload 5, 2) := by decide +kernel
theorem dX7_saidOf_32 : decode cX7_saidOf 32 = .ok (.iaload, 1) := by decide +kernel
theorem dX7_saidOf_33 : decode cX7_saidOf 33 = .ok (.aload_n 0, 1) := by decide +kernel
theorem dX7_saidOf_34 : decode cX7_saidOf 34 = .ok (.lload_n 1, 1) := by decide +kernel
theorem dX7_saidOf_35 : decode cX7_saidOf 35 = .ok (.aload_n 0, 1) := by decide +kernel
theorem dX7_saidOf_36 : decode cX7_saidOf 36 = .ok (.getfield 25, 3) := by decide +kernel
set_option maxRecDepth 100000 in
theorem wf_X7_25 : Cond.fieldLink RX7 25 "StoneTrust$Village" "town" "[I" ∈ gw := gm (List.mem_of_getElem? (i := 247) (by decide +kernel)) rfl
theorem dX7_saidOf_39 : decode cX7_saidOf 39 = .ok (.iload 5, 2) := by decide +kernel
theorem dX7_saidOf_41 : decode cX7_saidOf 41 = .ok (.iaload, 1) := by decide +kernel
theorem dX7_saidOf_42 : decode cX7_saidOf 42 = .ok (.invokevirtual 108, 3) := by decide +kernel
theorem dX7_saidOf_45 : decode cX7_saidOf 45 = .ok (.imul, 1) := by decide +kernel
theorem dX7_saidOf_46 : decode cX7_saidOf 46 = .ok (.iadd, 1) := by decide +kernel
theorem dX7_saidOf_47 : decode cX7_saidOf 47 = .ok (.istore 4, 2) := by decide +kernel
set_option maxHeartbeats 4000000 in
set_option maxRecDepth 100000 in
theorem c37_X7_saidOf (l : Launch) (G : va_G) (cI cJ cB cZ : ClassId) (a0 a1 a2 a3 a4 a5 a6 a7 a8 a9 a10 a11 : Nat) (b1 : Int64) (b2 : Int32) (v_V_0 : Int32) (v_V_1 : Int32) (v_V_2 : Int32) (v_V_5 : Int32) (g_V_says : Nat → Int32) (g_V_town : Nat → Int32) (g_V_poundLow : Nat → Int32) (hv_0 : 0 ≤ v_V_0.toInt) (hv_1 : v_V_0.toInt ≤ 110) (hv_2 : 0 ≤ v_V_1.toInt) (hv_3 : v_V_1.toInt ≤ 110) (hv_4 : 0 ≤ v_V_5.toInt) (hv_5 : v_V_5.toInt ≤ 6) (hT_g_V_says : TA 0 9 g_V_says) (hT_g_V_poundLow : TA 0 40 g_V_poundLow) : Con l G (TY cI cJ cB cZ) yX7_saidOf cX7_saidOf 6 (some .int) ({ frames := 2, cells := 0, slots := 0, locals := 45 } : Room) [.ref a0, .long b1, .int b2] [(a0, .inr (7, [.int v_V_0, .int v_V_1, .int v_V_2, .ref a1, .ref a2, .int v_V_5, .ref a3, .ref a4, .ref a5, .ref a6, .ref a7, .ref a8, .ref a9, .ref a10, .ref a11])), (a4, .inl (cI, 6, .inl g_V_says)), (a5, .inl (cI, 6, .inl g_V_town)), (a1, .inl (cI, 2, .inl g_V_poundLow))] (QI G (TY cI cJ cB cZ) (fun (r : Int32) (u : Unit) => (True)) (fun u : Unit => [(a0, .inr (7, [.int v_V_0, .int v_V_1, .int v_V_2, .ref a1, .ref a2, .int v_V_5, .ref a3, .ref a4, .ref a5, .ref a6, .ref a7, .ref a8, .ref a9, .ref a10, .ref a11])), (a4, .inl (cI, 6, .inl g_V_says)), (a5, .inl (cI, 6, .inl g_V_town)), (a1, .inl (cI, 2, .inl g_V_poundLow))])) := by
  refine k_met (by decide) (Nat.le_of_ble_eq_true rfl) ?_
  intro p e s m below meth c A ls hC hr hlk hnm hN hZ hK hA hP hD hS hl
  have hl : lv_has ls 6 [(0, .ref a0), (1, .long b1), (3, .int b2)] := hl
  generalize hQm : MQ below _ _ s _ _ A = Qm
  generalize (List.toArray _ : Array Value) = args at hC hQm ⊢
  obtain ⟨hx, hb, hml, hown, hts⟩ := id hC
  obtain ⟨H, hH⟩ : ∃ q, q = s.heap := ⟨_, rfl⟩
  obtain ⟨locs, hlo⟩ : ∃ q : List Loc, q = [] := ⟨_, rfl⟩
  have hP : va_P G cl [(a0, .inr (7, [.int v_V_0, .int v_V_1, .int v_V_2, .ref a1, .ref a2, .int v_V_5, .ref a3, .ref a4, .ref a5, .ref a6, .ref a7, .ref a8, .ref a9, .ref a10, .ref a11])), (a4, .inl (cI, 6, .inl g_V_says)), (a5, .inl (cI, 6, .inl g_V_town)), (a1, .inl (cI, 2, .inl g_V_poundLow))] H := by rw [hH]; exact hP
  have hS : va_S A s.heap H locs := by rw [hH, hlo]; exact hS
  rw [← hlo]
  rw [← hH]
  refine lv_iconst (v := 0) hx hb dX7_saidOf_0 (by decide) ?_
  refine lv_istore (lv' := [(4, .int 0), (0, .ref a0), (1, .long b1), (3, .int b2)]) hx hb dX7_saidOf_1 hl (by decide) rfl (fun ls hl => ?_)
  refine lv_iconst (v := 0) hx hb dX7_saidOf_3 (by decide) ?_
  refine lv_istore (lv' := [(5, .int 0), (4, .int 0), (0, .ref a0), (1, .long b1), (3, .int b2)]) hx hb dX7_saidOf_4 hl (by decide) rfl (fun ls hl => ?_)
  have L_6 : ∀ (n : Nat) (x1 : Int32) (x2 : Int32) (H : Heap) (locs : List Loc) (ls : Array Slot), (0 ≤ x1.toInt ∧ x1.toInt ≤ 6) → 6 - x1.toInt < (n : Int) → va_P G cl [(a0, .inr (7, [.int v_V_0, .int v_V_1, .int v_V_2, .ref a1, .ref a2, .int v_V_5, .ref a3, .ref a4, .ref a5, .ref a6, .ref a7, .ref a8, .ref a9, .ref a10, .ref a11])), (a4, .inl (cI, 6, .inl g_V_says)), (a5, .inl (cI, 6, .inl g_V_town)), (a1, .inl (cI, 2, .inl g_V_poundLow))] H → va_D A [(a0, .inr (7, [.int v_V_0, .int v_V_1, .int v_V_2, .ref a1, .ref a2, .int v_V_5, .ref a3, .ref a4, .ref a5, .ref a6, .ref a7, .ref a8, .ref a9, .ref a10, .ref a11])), (a4, .inl (cI, 6, .inl g_V_says)), (a5, .inl (cI, 6, .inl g_V_town)), (a1, .inl (cI, 2, .inl g_V_poundLow))] → va_S A s.heap H locs → lv_has ls 6 [(0, .ref a0), (1, .long b1), (3, .int b2), (4, .int x2), (5, .int x1)] → W p l e ({ frames := 2, cells := 0, slots := 0, locals := 45 } : Room) s m args below meth c H locs 0 0 Qm (F0 m 6 ls []) := by
    intro n
    induction n with
    | zero => intro x1 x2 H locs ls hv hm; omega
    | succ n ih =>
      intro x1 x2 H locs ls hv hm hP hD hS hl
      refine lv_iload hx hb dX7_saidOf_6 (lv_at hl 4 rfl) ?_
      refine lv_aload_n hx hb dX7_saidOf_8 rfl (lv_at hl 0 rfl) ?_
      refine k_get hC hK hP iX7 0 5 wf_X7_75 rfl (by decide) rfl rfl dX7_saidOf_9 ?_
      refine lv_icmp_ge (tgt := 55) hx hb dX7_saidOf_12 (by decide) (fun c3 => ?_) (fun c3 => ?_)
      · have dc3 : v_V_5.toInt ≤ x1.toInt := (fa_le _ _).mp c3
        refine lv_iload hx hb dX7_saidOf_55 (lv_at hl 3 rfl) ?_
        rw [← hQm]
        exact k_iret hC hr hlk hK hP hD hS () [0, 1, 2, 3] rfl (by decide +kernel) trivial (Nat.le_of_ble_eq_true rfl) (Nat.le_of_ble_eq_true rfl) dX7_saidOf_57
      · have dc3 : x1.toInt < v_V_5.toInt := fa_nle c3
        refine lv_iload_n hx hb dX7_saidOf_15 rfl (lv_at hl 2 rfl) ?_
        refine lv_iload hx hb dX7_saidOf_16 (lv_at hl 4 rfl) ?_
        refine lv_ishr hx hb dX7_saidOf_18 ?_
        refine lv_topi (fun z4 _ => ?_)
        refine lv_iconst (v := 1) hx hb dX7_saidOf_19 (by decide) ?_
        refine lv_iand hx hb dX7_saidOf_20 ?_
        refine t_i (fun q => 0 ≤ q.toInt ∧ q.toInt ≤ 1) (by have h_ := and_b (x := z4) (y := 1) (by decide); exact h_) (fun z5 tz5 => ?_)
        refine lv_if_eq (tgt := 49) hx hb dX7_saidOf_21 (by decide) (fun c6 => ?_) (fun c6 => ?_)
        · have dc6 : z5.toInt = 0 := (fa_eq _ _).mp c6
          obtain ⟨z7, ez7⟩ : ∃ q : Int32, q = x1 + Int32.ofInt 1 := ⟨_, rfl⟩
          have tz7 : z7.toInt = x1.toInt + 1 := by rw [ez7]; exact add_i (y := 1) (by have p_ := i_lo x1; show _ ≤ _ + (1 : Int); omega) (by have q_ := i_hi x1; show _ + (1 : Int) ≤ _; omega)
          refine lv_iinc (v := z7) (lv' := [(5, .int z7), (0, .ref a0), (1, .long b1), (3, .int b2), (4, .int x2)]) hx hb dX7_saidOf_49 hl (k := 4) rfl ez7.symm (by decide) rfl (fun ls hl => ?_)
          refine lv_goto (tgt := 6) hx hb dX7_saidOf_52 (by decide) ?_
          exact ih  z7 x2 H locs ls (by omega) (by omega) (hP.subm [0, 1, 2, 3] rfl) (hD.sub [0, 1, 2, 3] (by decide +kernel) rfl) hS (lv_sub hl [1, 2, 3, 4, 0] rfl)
        · have dc6 : z5.toInt ≠ 0 := fa_ne c6
          refine lv_iload hx hb dX7_saidOf_24 (lv_at hl 3 rfl) ?_
          refine lv_aload_n hx hb dX7_saidOf_26 rfl (lv_at hl 0 rfl) ?_
          refine k_get hC hK hP iX7 0 7 wf_X7_22 rfl (by decide) rfl rfl dX7_saidOf_27 ?_
          refine lv_iload hx hb dX7_saidOf_30 (lv_at hl 4 rfl) ?_
          refine t_iald hC hK hP 1 rfl (by omega) (by omega) hT_g_V_says dX7_saidOf_32 (fun z8 tz8 => ?_)
          refine lv_aload_n hx hb dX7_saidOf_33 rfl (lv_at hl 0 rfl) ?_
          refine lv_lload_n hx hb dX7_saidOf_34 rfl (lv_at hl 1 rfl) ?_
          refine lv_aload_n hx hb dX7_saidOf_35 rfl (lv_at hl 0 rfl) ?_
          refine k_get hC hK hP iX7 0 8 wf_X7_25 rfl (by decide) rfl rfl dX7_saidOf_36 ?_
          refine lv_iload hx hb dX7_saidOf_39 (lv_at hl 4 rfl) ?_
          refine t_iald hC hK hP 2 rfl (by omega) (by omega) (TA.all _) dX7_saidOf_41 (fun z9 tz9 => ?_)
          refine k_ci (wr := [(a4, .inl (cI, 6, .inl g_V_says)), (a5, .inl (cI, 6, .inl g_V_town))]) (k_rV hC hN hZ hS hA hK hP hD (c31_X7_poundOf l G cI cJ cB cZ a0 a1 a2 a3 a4 a5 a6 a7 a8 a9 a10 a11 b1 z9 v_V_0 v_V_1 v_V_2 v_V_5 g_V_poundLow hv_0 hv_1 hv_2 hv_3 hv_4 hv_5 hT_g_V_poundLow) [0, 3] rfl (by decide +kernel) mi_X7_poundOf in_X7_poundOf se_X7_poundOf wm_X7_108 7 0 rfl rfl rfl hl.1 rfl rfl (Nat.le_of_ble_eq_true rfl) ⟨(Nat.le_of_ble_eq_true rfl), (Nat.le_of_ble_eq_true rfl)⟩ dX7_saidOf_42 ⟨(Nat.le_of_ble_eq_true rfl), (Nat.le_of_ble_eq_true rfl)⟩) hP hD hS hA [0, 3] [1, 2] rfl rfl (by decide +kernel) (by decide +kernel) (fun r10 u10 H locs hp hP hD hS => ?_)
          have hp : ((-1) ≤ r10.toInt ∧ r10.toInt ≤ 47) := hp
          have hP : va_P G cl [(a4, .inl (cI, 6, .inl g_V_says)), (a5, .inl (cI, 6, .inl g_V_town)), (a0, .inr (7, [.int v_V_0, .int v_V_1, .int v_V_2, .ref a1, .ref a2, .int v_V_5, .ref a3, .ref a4, .ref a5, .ref a6, .ref a7, .ref a8, .ref a9, .ref a10, .ref a11])), (a1, .inl (cI, 2, .inl g_V_poundLow))] H := hP
          have hD : va_D A [(a4, .inl (cI, 6, .inl g_V_says)), (a5, .inl (cI, 6, .inl g_V_town)), (a0, .inr (7, [.int v_V_0, .int v_V_1, .int v_V_2, .ref a1, .ref a2, .int v_V_5, .ref a3, .ref a4, .ref a5, .ref a6, .ref a7, .ref a8, .ref a9, .ref a10, .ref a11])), (a1, .inl (cI, 2, .inl g_V_poundLow))] := hD
          have hq10 := hp
          refine lv_imul hx hb dX7_saidOf_45 ?_
          refine lv_topi (fun z11 _ => ?_)
          refine lv_iadd hx hb dX7_saidOf_46 ?_
          refine lv_topi (fun z12 _ => ?_)
          refine lv_istore (lv' := [(4, .int z12), (0, .ref a0), (1, .long b1), (3, .int b2), (5, .int x1)]) hx hb dX7_saidOf_47 hl (by decide) rfl (fun ls hl => ?_)
          obtain ⟨z13, ez13⟩ : ∃ q : Int32, q = x1 + Int32.ofInt 1 := ⟨_, rfl⟩
          have tz13 : z13.toInt = x1.toInt + 1 := by rw [ez13]; exact add_i (y := 1) (by have p_ := i_lo x1; show _ ≤ _ + (1 : Int); omega) (by have q_ := i_hi x1; show _ + (1 : Int) ≤ _; omega)
          refine lv_iinc (v := z13) (lv' := [(5, .int z13), (4, .int z12), (0, .ref a0), (1, .long b1), (3, .int b2)]) hx hb dX7_saidOf_49 hl (k := 4) rfl ez13.symm (by decide) rfl (fun ls hl => ?_)
          refine lv_goto (tgt := 6) hx hb dX7_saidOf_52 (by decide) ?_
          exact ih  z13 z12 H locs ls (by omega) (by omega) (hP.subm [2, 0, 1, 3] rfl) (hD.sub [2, 0, 1, 3] (by decide +kernel) rfl) hS (lv_sub hl [2, 3, 4, 1, 0] rfl)
  have l_l14 : (0 : Int32).toInt = 0 := rfl
  exact L_6 7 0 0 H locs ls (by omega) (by omega) (hP.subm [0, 1, 2, 3] rfl) (hD.sub [0, 1, 2, 3] (by decide +kernel) rfl) hS (lv_sub hl [2, 3, 4, 1, 0] rfl)
theorem dX7_liarsOf_0 : decode cX7_liarsOf 0 = .ok (.iconst 0, 1) := by decide +kernel
theorem dX7_liarsOf_1 : decode cX7_liarsOf 1 = .ok (.istore_n 3, 1) := by decide +kernel
theorem dX7_liarsOf_2 : decode cX7_liarsOf 2 = .ok (.iconst 0, 1) := by decide +kernel
theorem dX7_liarsOf_3 : decode cX7_liarsOf 3 = .ok (.istore 4, 2) := by decide +kernel
theorem dX7_liarsOf_5 : decode cX7_liarsOf 5 = .ok (.iload 4, 2) := by decide +kernel
theorem dX7_liarsOf_7 : decode cX7_liarsOf 7 = .ok (.aload_n 0, 1) := by decide +kernel
theorem dX7_liarsOf_8 : decode cX7_liarsOf 8 = .ok (.getfield 75, 3) := by decide +kernel
theorem dX7_liarsOf_11 : decode cX7_liarsOf 11 = .ok (.if_icmp .ge 45, 3) := by decide +kernel
theorem dX7_liarsOf_56 : decode cX7_liarsOf 56 = .ok (.iload_n 3, 1) := by decide +kernel
theorem dX7_liarsOf_57 : decode cX7_liarsOf 57 = .ok (.ireturn, 1) := by decide +kernel
theorem dX7_liarsOf_14 : decode cX7_liarsOf 14 = .ok (.lload_n 1, 1) := by decide +kernel
theorem dX7_liarsOf_15 : decode cX7_liarsOf 15 = .ok (.iload 4, 2) := by decide +kernel
theorem dX7_liarsOf_17 : decode cX7_liarsOf 17 = .ok (.invokestatic 111, 3) := by decide +kernel
theorem dX7_liarsOf_20 : decode cX7_liarsOf 20 = .ok (.aload_n 0, 1) := by decide +kernel
theorem dX7_liarsOf_21 : decode cX7_liarsOf 21 = .ok (.getfield 22, 3) := by decide +kernel
theorem dX7_liarsOf_24 : decode cX7_liarsOf 24 = .ok (.iload 4, 2) := by decide +kernel
theorem dX7_liarsOf_26 : decode cX7_liarsOf 26 = .ok (.iaload, 1) := by decide +kernel
theorem dX7_liarsOf_27 : decode cX7_liarsOf 27 = .ok (.aload_n 0, 1) := by decide +kernel
theorem dX7_liarsOf_28 : decode cX7_liarsOf 28 = .ok (.lload_n 1, 1) := by decide +kernel
theorem dX7_liarsOf_29 : decode cX7_liarsOf 29 = .ok (.aload_n 0, 1) := by decide +kernel
theorem dX7_liarsOf_30 : decode cX7_liarsOf 30 = .ok (.getfield 25, 3) := by decide +kernel
theorem dX7_liarsOf_33 : decode cX7_liarsOf 33 = .ok (.iload 4, 2) := by decide +kernel
theorem dX7_liarsOf_35 : decode cX7_liarsOf 35 = .ok (.iaload, 1) := by decide +kernel
theorem dX7_liarsOf_36 : decode cX7_liarsOf 36 = .ok (.invokevirtual 108, 3) := by decide +kernel
theorem dX7_liarsOf_39 : decode cX7_liarsOf 39 = .ok (.imul, 1) := by decide +kernel
theorem dX7_liarsOf_40 : decode cX7_liarsOf 40 = .ok (.if_icmp .eq 10, 3) := by decide +kernel
theorem dX7_liarsOf_50 : decode cX7_liarsOf 50 = .ok (.iinc 4 1, 3) := by decide +kernel
theorem dX7_liarsOf_53 : decode cX7_liarsOf 53 = .ok (.goto (-48), 3) := by decide +kernel
theorem dX7_liarsOf_43 : decode cX7_liarsOf 43 = .ok (.iload_n 3, 1) := by decide +kernel
theorem dX7_liarsOf_44 : decode cX7_liarsOf 44 = .ok (.iconst 1, 1) := by decide +kernel
theorem dX7_liarsOf_45 : decode cX7_liarsOf 45 = .ok (.iload 4, 2) := by decide +kernel
theorem dX7_liarsOf_47 : decode cX7_liarsOf 47 = .ok (.ishl, 1) := by decide +kernel
theorem dX7_liarsOf_48 : decode cX7_liarsOf 48 = .ok (.ior, 1) := by decide +kernel
theorem dX7_liarsOf_49 : decode cX7_liarsOf 49 = .ok (.istore_n 3, 1) := by decide +kernel
set_option maxHeartbeats 4000000 in
set_option maxRecDepth 100000 in
theorem c38_X7_liarsOf (l : Launch) (G : va_G) (cI cJ cB cZ : ClassId) (a0 a1 a2 a3 a4 a5 a6 a7 a8 a9 a10 a11 : Nat) (b1 : Int64) (v_V_0 : Int32) (v_V_1 : Int32) (v_V_2 : Int32) (v_V_5 : Int32) (g_V_says : Nat → Int32) (g_V_town : Nat → Int32) (g_V_poundLow : Nat → Int32) (hv_0 : 0 ≤ v_V_0.toInt) (hv_1 : v_V_0.toInt ≤ 110) (hv_2 : 0 ≤ v_V_1.toInt) (hv_3 : v_V_1.toInt ≤ 110) (hv_4 : 0 ≤ v_V_5.toInt) (hv_5 : v_V_5.toInt ≤ 6) (hT_g_V_says : TA 0 9 g_V_says) (hT_g_V_poundLow : TA 0 40 g_V_poundLow) : Con l G (TY cI cJ cB cZ) yX7_liarsOf cX7_liarsOf 5 (some .int) ({ frames := 2, cells := 0, slots := 0, locals := 45 } : Room) [.ref a0, .long b1] [(a0, .inr (7, [.int v_V_0, .int v_V_1, .int v_V_2, .ref a1, .ref a2, .int v_V_5, .ref a3, .ref a4, .ref a5, .ref a6, .ref a7, .ref a8, .ref a9, .ref a10, .ref a11])), (a4, .inl (cI, 6, .inl g_V_says)), (a5, .inl (cI, 6, .inl g_V_town)), (a1, .inl (cI, 2, .inl g_V_poundLow))] (QI G (TY cI cJ cB cZ) (fun (r : Int32) (u : Unit) => (0 ≤ r.toInt ∧ r.toInt ≤ 63)) (fun u : Unit => [(a0, .inr (7, [.int v_V_0, .int v_V_1, .int v_V_2, .ref a1, .ref a2, .int v_V_5, .ref a3, .ref a4, .ref a5, .ref a6, .ref a7, .ref a8, .ref a9, .ref a10, .ref a11])), (a4, .inl (cI, 6, .inl g_V_says)), (a5, .inl (cI, 6, .inl g_V_town)), (a1, .inl (cI, 2, .inl g_V_poundLow))])) := by
  refine k_met (by decide) (Nat.le_of_ble_eq_true rfl) ?_
  intro p e s m below meth c A ls hC hr hlk hnm hN hZ hK hA hP hD hS hl
  have hl : lv_has ls 5 [(0, .ref a0), (1, .long b1)] := hl
  generalize hQm : MQ below _ _ s _ _ A = Qm
  generalize (List.toArray _ : Array Value) = args at hC hQm ⊢
  obtain ⟨hx, hb, hml, hown, hts⟩ := id hC
  obtain ⟨H, hH⟩ : ∃ q, q = s.heap := ⟨_, rfl⟩
  obtain ⟨locs, hlo⟩ : ∃ q : List Loc, q = [] := ⟨_, rfl⟩
  have hP : va_P G cl [(a0, .inr (7, [.int v_V_0, .int v_V_1, .int v_V_2, .ref a1, .ref a2, .int v_V_5, .ref a3, .ref a4, .ref a5, .ref a6, .ref a7, .ref a8, .ref a9, .ref a10, .ref a11])), (a4, .inl (cI, 6, .inl g_V_says)), (a5, .inl (cI, 6, .inl g_V_town)), (a1, .inl (cI, 2, .inl g_V_poundLow))] H := by rw [hH]; exact hP
  have hS : va_S A s.heap H locs := by rw [hH, hlo]; exact hS
  rw [← hlo]
  rw [← hH]
  refine lv_iconst (v := 0) hx hb dX7_liarsOf_0 (by decide) ?_
  refine lv_istore_n (lv' := [(3, .int 0), (0, .ref a0), (1, .long b1)]) hx hb dX7_liarsOf_1 rfl hl (by decide) rfl (fun ls hl => ?_)
  refine lv_iconst (v := 0) hx hb dX7_liarsOf_2 (by decide) ?_
  refine lv_istore (lv' := [(4, .int 0), (3, .int 0), (0, .ref a0), (1, .long b1)]) hx hb dX7_liarsOf_3 hl (by decide) rfl (fun ls hl => ?_)
  have L_5 : ∀ (n : Nat) (x1 : Int32) (x2 : Int32) (H : Heap) (locs : List Loc) (ls : Array Slot), (0 ≤ x1.toInt ∧ x1.toInt ≤ 6 ∧ 0 ≤ x2.toInt ∧ x2.toInt ≤ 63) → 6 - x1.toInt < (n : Int) → va_P G cl [(a0, .inr (7, [.int v_V_0, .int v_V_1, .int v_V_2, .ref a1, .ref a2, .int v_V_5, .ref a3, .ref a4, .ref a5, .ref a6, .ref a7, .ref a8, .ref a9, .ref a10, .ref a11])), (a4, .inl (cI, 6, .inl g_V_says)), (a5, .inl (cI, 6, .inl g_V_town)), (a1, .inl (cI, 2, .inl g_V_poundLow))] H → va_D A [(a0, .inr (7, [.int v_V_0, .int v_V_1, .int v_V_2, .ref a1, .ref a2, .int v_V_5, .ref a3, .ref a4, .ref a5, .ref a6, .ref a7, .ref a8, .ref a9, .ref a10, .ref a11])), (a4, .inl (cI, 6, .inl g_V_says)), (a5, .inl (cI, 6, .inl g_V_town)), (a1, .inl (cI, 2, .inl g_V_poundLow))] → va_S A s.heap H locs → lv_has ls 5 [(0, .ref a0), (1, .long b1), (3, .int x2), (4, .int x1)] → W p l e ({ frames := 2, cells := 0, slots := 0, locals := 45 } : Room) s m args below meth c H locs 0 0 Qm (F0 m 5 ls []) := by
    intro n
    induction n with
    | zero => intro x1 x2 H locs ls hv hm; omega
    | succ n ih =>
      intro x1 x2 H locs ls hv hm hP hD hS hl
      refine lv_iload hx hb dX7_liarsOf_5 (lv_at hl 3 rfl) ?_
      refine lv_aload_n hx hb dX7_liarsOf_7 rfl (lv_at hl 0 rfl) ?_
      refine k_get hC hK hP iX7 0 5 wf_X7_75 rfl (by decide) rfl rfl dX7_liarsOf_8 ?_
      refine lv_icmp_ge (tgt := 56) hx hb dX7_liarsOf_11 (by decide) (fun c3 => ?_) (fun c3 => ?_)
      · have dc3 : v_V_5.toInt ≤ x1.toInt := (fa_le _ _).mp c3
        refine lv_iload_n hx hb dX7_liarsOf_56 rfl (lv_at hl 2 rfl) ?_
        rw [← hQm]
        exact k_iret hC hr hlk hK hP hD hS () [0, 1, 2, 3] rfl (by decide +kernel) (show 0 ≤ x2.toInt ∧ x2.toInt ≤ 63 from by omega) (Nat.le_of_ble_eq_true rfl) (Nat.le_of_ble_eq_true rfl) dX7_liarsOf_57
      · have dc3 : x1.toInt < v_V_5.toInt := fa_nle c3
        refine lv_lload_n hx hb dX7_liarsOf_14 rfl (lv_at hl 1 rfl) ?_
        refine lv_iload hx hb dX7_liarsOf_15 (lv_at hl 3 rfl) ?_
        refine k_ci (wr := [(a0, .inr (7, [.int v_V_0, .int v_V_1, .int v_V_2, .ref a1, .ref a2, .int v_V_5, .ref a3, .ref a4, .ref a5, .ref a6, .ref a7, .ref a8, .ref a9, .ref a10, .ref a11])), (a4, .inl (cI, 6, .inl g_V_says)), (a5, .inl (cI, 6, .inl g_V_town)), (a1, .inl (cI, 2, .inl g_V_poundLow))]) (k_rS hC hN hZ hS hA hK hP hD (c32_X0_weightOf l G cI cJ cB cZ b1 x1) [] rfl (by decide +kernel) mi_X0_weightOf st_X0_weightOf wm_X7_111 hl.1 rfl rfl (Nat.le_of_ble_eq_true rfl) ⟨(Nat.le_of_ble_eq_true rfl), (Nat.le_of_ble_eq_true rfl)⟩ dX7_liarsOf_17 ⟨(Nat.le_of_ble_eq_true rfl), (Nat.le_of_ble_eq_true rfl)⟩) hP hD hS hA [] [0, 1, 2, 3] rfl rfl (by decide +kernel) (by decide +kernel) (fun r4 u4 H locs hp hP hD hS => ?_)
        have hp : (0 ≤ r4.toInt ∧ r4.toInt ≤ 511) := hp
        have hP : va_P G cl [(a0, .inr (7, [.int v_V_0, .int v_V_1, .int v_V_2, .ref a1, .ref a2, .int v_V_5, .ref a3, .ref a4, .ref a5, .ref a6, .ref a7, .ref a8, .ref a9, .ref a10, .ref a11])), (a4, .inl (cI, 6, .inl g_V_says)), (a5, .inl (cI, 6, .inl g_V_town)), (a1, .inl (cI, 2, .inl g_V_poundLow))] H := hP
        have hD : va_D A [(a0, .inr (7, [.int v_V_0, .int v_V_1, .int v_V_2, .ref a1, .ref a2, .int v_V_5, .ref a3, .ref a4, .ref a5, .ref a6, .ref a7, .ref a8, .ref a9, .ref a10, .ref a11])), (a4, .inl (cI, 6, .inl g_V_says)), (a5, .inl (cI, 6, .inl g_V_town)), (a1, .inl (cI, 2, .inl g_V_poundLow))] := hD
        have hq4 := hp
        refine lv_aload_n hx hb dX7_liarsOf_20 rfl (lv_at hl 0 rfl) ?_
        refine k_get hC hK hP iX7 0 7 wf_X7_22 rfl (by decide) rfl rfl dX7_liarsOf_21 ?_
        refine lv_iload hx hb dX7_liarsOf_24 (lv_at hl 3 rfl) ?_
        refine t_iald hC hK hP 1 rfl (by omega) (by omega) hT_g_V_says dX7_liarsOf_26 (fun z5 tz5 => ?_)
        refine lv_aload_n hx hb dX7_liarsOf_27 rfl (lv_at hl 0 rfl) ?_
        refine lv_lload_n hx hb dX7_liarsOf_28 rfl (lv_at hl 1 rfl) ?_
        refine lv_aload_n hx hb dX7_liarsOf_29 rfl (lv_at hl 0 rfl) ?_
        refine k_get hC hK hP iX7 0 8 wf_X7_25 rfl (by decide) rfl rfl dX7_liarsOf_30 ?_
        refine lv_iload hx hb dX7_liarsOf_33 (lv_at hl 3 rfl) ?_
        refine t_iald hC hK hP 2 rfl (by omega) (by omega) (TA.all _) dX7_liarsOf_35 (fun z6 tz6 => ?_)
        refine k_ci (wr := [(a4, .inl (cI, 6, .inl g_V_says)), (a5, .inl (cI, 6, .inl g_V_town))]) (k_rV hC hN hZ hS hA hK hP hD (c31_X7_poundOf l G cI cJ cB cZ a0 a1 a2 a3 a4 a5 a6 a7 a8 a9 a10 a11 b1 z6 v_V_0 v_V_1 v_V_2 v_V_5 g_V_poundLow hv_0 hv_1 hv_2 hv_3 hv_4 hv_5 hT_g_V_poundLow) [0, 3] rfl (by decide +kernel) mi_X7_poundOf in_X7_poundOf se_X7_poundOf wm_X7_108 7 0 rfl rfl rfl hl.1 rfl rfl (Nat.le_of_ble_eq_true rfl) ⟨(Nat.le_of_ble_eq_true rfl), (Nat.le_of_ble_eq_true rfl)⟩ dX7_liarsOf_36 ⟨(Nat.le_of_ble_eq_true rfl), (Nat.le_of_ble_eq_true rfl)⟩) hP hD hS hA [0, 3] [1, 2] rfl rfl (by decide +kernel) (by decide +kernel) (fun r7 u7 H locs hp hP hD hS => ?_)
        have hp : ((-1) ≤ r7.toInt ∧ r7.toInt ≤ 47) := hp
        have hP : va_P G cl [(a4, .inl (cI, 6, .inl g_V_says)), (a5, .inl (cI, 6, .inl g_V_town)), (a0, .inr (7, [.int v_V_0, .int v_V_1, .int v_V_2, .ref a1, .ref a2, .int v_V_5, .ref a3, .ref a4, .ref a5, .ref a6, .ref a7, .ref a8, .ref a9, .ref a10, .ref a11])), (a1, .inl (cI, 2, .inl g_V_poundLow))] H := hP
        have hD : va_D A [(a4, .inl (cI, 6, .inl g_V_says)), (a5, .inl (cI, 6, .inl g_V_town)), (a0, .inr (7, [.int v_V_0, .int v_V_1, .int v_V_2, .ref a1, .ref a2, .int v_V_5, .ref a3, .ref a4, .ref a5, .ref a6, .ref a7, .ref a8, .ref a9, .ref a10, .ref a11])), (a1, .inl (cI, 2, .inl g_V_poundLow))] := hD
        have hq7 := hp
        refine lv_imul hx hb dX7_liarsOf_39 ?_
        refine lv_topi (fun z8 _ => ?_)
        refine lv_icmp_eq (tgt := 50) hx hb dX7_liarsOf_40 (by decide) (fun c9 => ?_) (fun c9 => ?_)
        · have dc9 : r4.toInt = z8.toInt := (fa_eq _ _).mp c9; have lbc9_1 := i_lo z8; have ubc9_1 := i_hi z8
          obtain ⟨z10, ez10⟩ : ∃ q : Int32, q = x1 + Int32.ofInt 1 := ⟨_, rfl⟩
          have tz10 : z10.toInt = x1.toInt + 1 := by rw [ez10]; exact add_i (y := 1) (by have p_ := i_lo x1; show _ ≤ _ + (1 : Int); omega) (by have q_ := i_hi x1; show _ + (1 : Int) ≤ _; omega)
          refine lv_iinc (v := z10) (lv' := [(4, .int z10), (0, .ref a0), (1, .long b1), (3, .int x2)]) hx hb dX7_liarsOf_50 hl (k := 3) rfl ez10.symm (by decide) rfl (fun ls hl => ?_)
          refine lv_goto (tgt := 5) hx hb dX7_liarsOf_53 (by decide) ?_
          exact ih  z10 x2 H locs ls (by omega) (by omega) (hP.subm [2, 0, 1, 3] rfl) (hD.sub [2, 0, 1, 3] (by decide +kernel) rfl) hS (lv_sub hl [1, 2, 3, 0] rfl)
        · have dc9 : r4.toInt ≠ z8.toInt := fa_ne c9; have lbc9_1 := i_lo z8; have ubc9_1 := i_hi z8
          refine lv_iload_n hx hb dX7_liarsOf_43 rfl (lv_at hl 2 rfl) ?_
          refine lv_iconst (v := 1) hx hb dX7_liarsOf_44 (by decide) ?_
          refine lv_iload hx hb dX7_liarsOf_45 (lv_at hl 3 rfl) ?_
          refine lv_ishl hx hb dX7_liarsOf_47 ?_
          refine t_i (fun q => 1 ≤ q.toInt ∧ q.toInt ≤ 32) (shl1_b (k := 5) (by decide) (by omega) (by omega)) (fun z11 tz11 => ?_)
          refine lv_ior hx hb dX7_liarsOf_48 ?_
          refine t_i (fun q => 0 ≤ q.toInt ∧ q.toInt < 64) (or_b (k := 6) (by decide) (by omega) (by omega) (by omega) (by omega)) (fun z12 tz12 => ?_)
          refine lv_istore_n (lv' := [(3, .int z12), (0, .ref a0), (1, .long b1), (4, .int x1)]) hx hb dX7_liarsOf_49 rfl hl (by decide) rfl (fun ls hl => ?_)
          obtain ⟨z13, ez13⟩ : ∃ q : Int32, q = x1 + Int32.ofInt 1 := ⟨_, rfl⟩
          have tz13 : z13.toInt = x1.toInt + 1 := by rw [ez13]; exact add_i (y := 1) (by have p_ := i_lo x1; show _ ≤ _ + (1 : Int); omega) (by have q_ := i_hi x1; show _ + (1 : Int) ≤ _; omega)
          refine lv_iinc (v := z13) (lv' := [(4, .int z13), (3, .int z12), (0, .ref a0), (1, .long b1)]) hx hb dX7_liarsOf_50 hl (k := 3) rfl ez13.symm (by decide) rfl (fun ls hl => ?_)
          refine lv_goto (tgt := 5) hx hb dX7_liarsOf_53 (by decide) ?_
          exact ih  z13 z12 H locs ls (by omega) (by omega) (hP.subm [2, 0, 1, 3] rfl) (hD.sub [2, 0, 1, 3] (by decide +kernel) rfl) hS (lv_sub hl [2, 3, 1, 0] rfl)
  have l_l14 : (0 : Int32).toInt = 0 := rfl
  exact L_5 7 0 0 H locs ls (by omega) (by omega) (hP.subm [0, 1, 2, 3] rfl) (hD.sub [0, 1, 2, 3] (by decide +kernel) rfl) hS (lv_sub hl [2, 3, 1, 0] rfl)
theorem dX7_verdict_0 : decode cX7_verdict 0 = .ok (.iload_n 1, 1) := by decide +kernel
theorem dX7_verdict_1 : decode cX7_verdict 1 = .ok (.bipush 100, 2) := by decide +kernel
theorem dX7_verdict_3 : decode cX7_verdict 3 = .ok (.aload_n 0, 1) := by decide +kernel
theorem dX7_verdict_4 : decode cX7_verdict 4 = .ok (.getfield 66, 3) := by decide +kernel
theorem dX7_verdict_7 : decode cX7_verdict 7 = .ok (.imul, 1) := by decide +kernel
theorem dX7_verdict_8 : decode cX7_verdict 8 = .ok (.if_icmp .le 5, 3) := by decide +kernel
theorem dX7_verdict_13 : decode cX7_verdict 13 = .ok (.iload_n 1, 1) := by decide +kernel
theorem dX7_verdict_14 : decode cX7_verdict 14 = .ok (.bipush (-100), 2) := by decide +kernel
theorem dX7_verdict_16 : decode cX7_verdict 16 = .ok (.aload_n 0, 1) := by decide +kernel
theorem dX7_verdict_17 : decode cX7_verdict 17 = .ok (.getfield 66, 3) := by decide +kernel
theorem dX7_verdict_20 : decode cX7_verdict 20 = .ok (.imul, 1) := by decide +kernel
theorem dX7_verdict_21 : decode cX7_verdict 21 = .ok (.if_icmp .ge 7, 3) := by decide +kernel
theorem dX7_verdict_28 : decode cX7_verdict 28 = .ok (.iconst 2, 1) := by decide +kernel
theorem dX7_verdict_29 : decode cX7_verdict 29 = .ok (.ireturn, 1) := by decide +kernel
theorem dX7_verdict_24 : decode cX7_verdict 24 = .ok (.iconst 1, 1) := by decide +kernel
theorem dX7_verdict_25 : decode cX7_verdict 25 = .ok (.goto 4, 3) := by decide +kernel
theorem dX7_verdict_11 : decode cX7_verdict 11 = .ok (.iconst 0, 1) := by decide +kernel
theorem dX7_verdict_12 : decode cX7_verdict 12 = .ok (.ireturn, 1) := by decide +kernel
set_option maxHeartbeats 4000000 in
set_option maxRecDepth 100000 in
theorem c39_X7_verdict (l : Launch) (G : va_G) (cI cJ cB cZ : ClassId) (a0 a1 a2 a3 a4 a5 a6 a7 a8 a9 a10 a11 : Nat) (b1 : Int32) (v_V_0 : Int32) (v_V_1 : Int32) (v_V_2 : Int32) (v_V_5 : Int32) (hv_0 : 0 ≤ v_V_0.toInt) (hv_1 : v_V_0.toInt ≤ 110) (hv_2 : 0 ≤ v_V_1.toInt) (hv_3 : v_V_1.toInt ≤ 110) (hv_4 : 0 ≤ v_V_5.toInt) (hv_5 : v_V_5.toInt ≤ 6) : Con l G (TY cI cJ cB cZ) yX7_verdict cX7_verdict 2 (some .int) ({ frames := 0, cells := 0, slots := 0, locals := 0 } : Room) [.ref a0, .int b1] [(a0, .inr (7, [.int v_V_0, .int v_V_1, .int v_V_2, .ref a1, .ref a2, .int v_V_5, .ref a3, .ref a4, .ref a5, .ref a6, .ref a7, .ref a8, .ref a9, .ref a10, .ref a11]))] (QI G (TY cI cJ cB cZ) (fun (r : Int32) (u : Unit) => (0 ≤ r.toInt ∧ r.toInt ≤ 2)) (fun u : Unit => [(a0, .inr (7, [.int v_V_0, .int v_V_1, .int v_V_2, .ref a1, .ref a2, .int v_V_5, .ref a3, .ref a4, .ref a5, .ref a6, .ref a7, .ref a8, .ref a9, .ref a10, .ref a11]))])) := by
  refine k_met (by decide) (Nat.le_of_ble_eq_true rfl) ?_
  intro p e s m below meth c A ls hC hr hlk hnm hN hZ hK hA hP hD hS hl
  have hl : lv_has ls 2 [(0, .ref a0), (1, .int b1)] := hl
  generalize hQm : MQ below _ _ s _ _ A = Qm
  generalize (List.toArray _ : Array Value) = args at hC hQm ⊢
  obtain ⟨hx, hb, hml, hown, hts⟩ := id hC
  obtain ⟨H, hH⟩ : ∃ q, q = s.heap := ⟨_, rfl⟩
  obtain ⟨locs, hlo⟩ : ∃ q : List Loc, q = [] := ⟨_, rfl⟩
  have hP : va_P G cl [(a0, .inr (7, [.int v_V_0, .int v_V_1, .int v_V_2, .ref a1, .ref a2, .int v_V_5, .ref a3, .ref a4, .ref a5, .ref a6, .ref a7, .ref a8, .ref a9, .ref a10, .ref a11]))] H := by rw [hH]; exact hP
  have hS : va_S A s.heap H locs := by rw [hH, hlo]; exact hS
  rw [← hlo]
  rw [← hH]
  refine lv_iload_n hx hb dX7_verdict_0 rfl (lv_at hl 1 rfl) ?_
  refine lv_bipush (v := 100) hx hb dX7_verdict_1 (by decide) ?_
  refine lv_aload_n hx hb dX7_verdict_3 rfl (lv_at hl 0 rfl) ?_
  refine k_get hC hK hP iX7 0 2 wf_X7_66 rfl (by decide) rfl rfl dX7_verdict_4 ?_
  refine lv_imul hx hb dX7_verdict_7 ?_
  refine lv_topi (fun z1 _ => ?_)
  refine lv_icmp_le (tgt := 13) hx hb dX7_verdict_8 (by decide) (fun c2 => ?_) (fun c2 => ?_)
  · have dc2 : b1.toInt ≤ z1.toInt := (fa_le _ _).mp c2; have lbc2_0 := i_lo b1; have ubc2_0 := i_hi b1; have lbc2_1 := i_lo z1; have ubc2_1 := i_hi z1
    refine lv_iload_n hx hb dX7_verdict_13 rfl (lv_at hl 1 rfl) ?_
    refine lv_bipush (v := (-100)) hx hb dX7_verdict_14 (by decide) ?_
    refine lv_aload_n hx hb dX7_verdict_16 rfl (lv_at hl 0 rfl) ?_
    refine k_get hC hK hP iX7 0 2 wf_X7_66 rfl (by decide) rfl rfl dX7_verdict_17 ?_
    refine lv_imul hx hb dX7_verdict_20 ?_
    refine lv_topi (fun z3 _ => ?_)
    refine lv_icmp_ge (tgt := 28) hx hb dX7_verdict_21 (by decide) (fun c4 => ?_) (fun c4 => ?_)
    · have dc4 : z3.toInt ≤ b1.toInt := (fa_le _ _).mp c4; have lbc4_0 := i_lo z3; have ubc4_0 := i_hi z3; have lbc4_1 := i_lo b1; have ubc4_1 := i_hi b1
      refine lv_iconst (v := 2) hx hb dX7_verdict_28 (by decide) ?_
      have l_l5 : (2 : Int32).toInt = 2 := rfl
      rw [← hQm]
      exact k_iret hC hr hlk hK hP hD hS () [0] rfl (by decide +kernel) (show 0 ≤ (2 : Int32).toInt ∧ (2 : Int32).toInt ≤ 2 from by omega) (Nat.le_of_ble_eq_true rfl) (Nat.le_of_ble_eq_true rfl) dX7_verdict_29
    · have dc4 : b1.toInt < z3.toInt := fa_nle c4; have lbc4_0 := i_lo z3; have ubc4_0 := i_hi z3; have lbc4_1 := i_lo b1; have ubc4_1 := i_hi b1
      refine lv_iconst (v := 1) hx hb dX7_verdict_24 (by decide) ?_
      refine lv_goto (tgt := 29) hx hb dX7_verdict_25 (by decide) ?_
      have l_l6 : (1 : Int32).toInt = 1 := rfl
      rw [← hQm]
      exact k_iret hC hr hlk hK hP hD hS () [0] rfl (by decide +kernel) (show 0 ≤ (1 : Int32).toInt ∧ (1 : Int32).toInt ≤ 2 from by omega) (Nat.le_of_ble_eq_true rfl) (Nat.le_of_ble_eq_true rfl) dX7_verdict_29
  · have dc2 : z1.toInt < b1.toInt := fa_nle c2; have lbc2_0 := i_lo b1; have ubc2_0 := i_hi b1; have lbc2_1 := i_lo z1; have ubc2_1 := i_hi z1
    refine lv_iconst (v := 0) hx hb dX7_verdict_11 (by decide) ?_
    have l_l7 : (0 : Int32).toInt = 0 := rfl
    rw [← hQm]
    exact k_iret hC hr hlk hK hP hD hS () [0] rfl (by decide +kernel) (show 0 ≤ (0 : Int32).toInt ∧ (0 : Int32).toInt ≤ 2 from by omega) (Nat.le_of_ble_eq_true rfl) (Nat.le_of_ble_eq_true rfl) dX7_verdict_12
theorem dX7_shows_0 : decode cX7_shows 0 = .ok (.aload_n 0, 1) := by decide +kernel
theorem dX7_shows_1 : decode cX7_shows 1 = .ok (.bipush 100, 2) := by decide +kernel
theorem dX7_shows_3 : decode cX7_shows 3 = .ok (.aload_n 0, 1) := by decide +kernel
theorem dX7_shows_4 : decode cX7_shows 4 = .ok (.lload_n 1, 1) := by decide +kernel
theorem dX7_shows_5 : decode cX7_shows 5 = .ok (.iload_n 3, 1) := by decide +kernel
theorem dX7_shows_6 : decode cX7_shows 6 = .ok (.iconst 0, 1) := by decide +kernel
theorem dX7_shows_7 : decode cX7_shows 7 = .ok (.invokevirtual 114, 3) := by decide +kernel
set_option maxRecDepth 100000 in
theorem wm_X7_114 : Cond.methodLink RX7 114 yX7_haveOf ∈ gw := gm (List.mem_of_getElem? (i := 1082) (by decide +kernel)) rfl
set_option maxRecDepth 100000 in
theorem mi_X7_haveOf : MI yX7_haveOf cX7_haveOf 7 (some .int) 3 := ⟨gm (List.mem_of_getElem? (i := 1085) rfl) rfl, gm (List.mem_of_getElem? (i := 113) (by decide +kernel)) rfl, by decide, by decide, by decide +kernel⟩
set_option maxRecDepth 100000 in
theorem in_X7_haveOf : Cond.instanceMethod yX7_haveOf ∈ gw := gm (List.mem_of_getElem? (i := 1083) (by decide +kernel)) rfl
set_option maxRecDepth 100000 in
theorem se_X7_haveOf : Cond.selects yX7_haveOf.cls yX7_haveOf yX7_haveOf ∈ gw := gm (List.mem_of_getElem? (i := 1084) (by decide +kernel)) rfl
theorem dX7_shows_10 : decode cX7_shows 10 = .ok (.imul, 1) := by decide +kernel
theorem dX7_shows_11 : decode cX7_shows 11 = .ok (.aload_n 0, 1) := by decide +kernel
theorem dX7_shows_12 : decode cX7_shows 12 = .ok (.lload_n 1, 1) := by decide +kernel
theorem dX7_shows_13 : decode cX7_shows 13 = .ok (.invokevirtual 105, 3) := by decide +kernel
theorem dX7_shows_16 : decode cX7_shows 16 = .ok (.aload_n 0, 1) := by decide +kernel
theorem dX7_shows_17 : decode cX7_shows 17 = .ok (.lload_n 1, 1) := by decide +kernel
theorem dX7_shows_18 : decode cX7_shows 18 = .ok (.iload 4, 2) := by decide +kernel
theorem dX7_shows_20 : decode cX7_shows 20 = .ok (.iconst 0, 1) := by decide +kernel
theorem dX7_shows_21 : decode cX7_shows 21 = .ok (.invokevirtual 114, 3) := by decide +kernel
theorem dX7_shows_24 : decode cX7_shows 24 = .ok (.imul, 1) := by decide +kernel
theorem dX7_shows_25 : decode cX7_shows 25 = .ok (.isub, 1) := by decide +kernel
theorem dX7_shows_26 : decode cX7_shows 26 = .ok (.invokevirtual 118, 3) := by decide +kernel
set_option maxRecDepth 100000 in
theorem wm_X7_118 : Cond.methodLink RX7 118 yX7_verdict ∈ gw := gm (List.mem_of_getElem? (i := 1086) (by decide +kernel)) rfl
set_option maxRecDepth 100000 in
theorem mi_X7_verdict : MI yX7_verdict cX7_verdict 2 (some .int) 1 := ⟨gm (List.mem_of_getElem? (i := 877) rfl) rfl, gm (List.mem_of_getElem? (i := 113) (by decide +kernel)) rfl, by decide, by decide, by decide +kernel⟩
set_option maxRecDepth 100000 in
theorem in_X7_verdict : Cond.instanceMethod yX7_verdict ∈ gw := gm (List.mem_of_getElem? (i := 875) (by decide +kernel)) rfl
set_option maxRecDepth 100000 in
theorem se_X7_verdict : Cond.selects yX7_verdict.cls yX7_verdict yX7_verdict ∈ gw := gm (List.mem_of_getElem? (i := 876) (by decide +kernel)) rfl
theorem dX7_shows_29 : decode cX7_shows 29 = .ok (.ireturn, 1) := by decide +kernel
set_option maxHeartbeats 4000000 in
set_option maxRecDepth 100000 in
theorem c40_X7_shows (l : Launch) (G : va_G) (cI cJ cB cZ : ClassId) (a0 a1 a2 a3 a4 a5 a6 a7 a8 a9 a10 a11 : Nat) (b1 : Int64) (b2 : Int32) (b3 : Int32) (v_V_0 : Int32) (v_V_1 : Int32) (v_V_2 : Int32) (v_V_5 : Int32) (g_V_worn : Nat → Int32) (hv_0 : 0 ≤ v_V_0.toInt) (hv_1 : v_V_0.toInt ≤ 110) (hv_2 : 0 ≤ v_V_1.toInt) (hv_3 : v_V_1.toInt ≤ 110) (hv_4 : 0 ≤ v_V_5.toInt) (hv_5 : v_V_5.toInt ≤ 6) : Con l G (TY cI cJ cB cZ) yX7_shows cX7_shows 5 (some .int) ({ frames := 2, cells := 0, slots := 0, locals := 48 } : Room) [.ref a0, .long b1, .int b2, .int b3] [(a0, .inr (7, [.int v_V_0, .int v_V_1, .int v_V_2, .ref a1, .ref a2, .int v_V_5, .ref a3, .ref a4, .ref a5, .ref a6, .ref a7, .ref a8, .ref a9, .ref a10, .ref a11])), (a7, .inl (cI, 6, .inl g_V_worn))] (QI G (TY cI cJ cB cZ) (fun (r : Int32) (u : Unit) => (0 ≤ r.toInt ∧ r.toInt ≤ 2)) (fun u : Unit => [(a0, .inr (7, [.int v_V_0, .int v_V_1, .int v_V_2, .ref a1, .ref a2, .int v_V_5, .ref a3, .ref a4, .ref a5, .ref a6, .ref a7, .ref a8, .ref a9, .ref a10, .ref a11])), (a7, .inl (cI, 6, .inl g_V_worn))])) := by
  refine k_met (by decide) (Nat.le_of_ble_eq_true rfl) ?_
  intro p e s m below meth c A ls hC hr hlk hnm hN hZ hK hA hP hD hS hl
  have hl : lv_has ls 5 [(0, .ref a0), (1, .long b1), (3, .int b2), (4, .int b3)] := hl
  generalize hQm : MQ below _ _ s _ _ A = Qm
  generalize (List.toArray _ : Array Value) = args at hC hQm ⊢
  obtain ⟨hx, hb, hml, hown, hts⟩ := id hC
  obtain ⟨H, hH⟩ : ∃ q, q = s.heap := ⟨_, rfl⟩
  obtain ⟨locs, hlo⟩ : ∃ q : List Loc, q = [] := ⟨_, rfl⟩
  have hP : va_P G cl [(a0, .inr (7, [.int v_V_0, .int v_V_1, .int v_V_2, .ref a1, .ref a2, .int v_V_5, .ref a3, .ref a4, .ref a5, .ref a6, .ref a7, .ref a8, .ref a9, .ref a10, .ref a11])), (a7, .inl (cI, 6, .inl g_V_worn))] H := by rw [hH]; exact hP
  have hS : va_S A s.heap H locs := by rw [hH, hlo]; exact hS
  rw [← hlo]
  rw [← hH]
  refine lv_aload_n hx hb dX7_shows_0 rfl (lv_at hl 0 rfl) ?_
  refine lv_bipush (v := 100) hx hb dX7_shows_1 (by decide) ?_
  refine lv_aload_n hx hb dX7_shows_3 rfl (lv_at hl 0 rfl) ?_
  refine lv_lload_n hx hb dX7_shows_4 rfl (lv_at hl 1 rfl) ?_
  refine lv_iload_n hx hb dX7_shows_5 rfl (lv_at hl 2 rfl) ?_
  refine lv_iconst (v := 0) hx hb dX7_shows_6 (by decide) ?_
  have l_l2 : (0 : Int32).toInt = 0 := rfl
  refine k_ci (wr := []) (k_rV hC hN hZ hS hA hK hP hD (c36_X7_haveOf l G cI cJ cB cZ a0 a1 a2 a3 a4 a5 a6 a7 a8 a9 a10 a11 b1 b2 0 v_V_0 v_V_1 v_V_2 v_V_5 g_V_worn hv_0 hv_1 hv_2 hv_3 hv_4 hv_5) [0, 1] rfl (by decide +kernel) mi_X7_haveOf in_X7_haveOf se_X7_haveOf wm_X7_114 7 0 rfl rfl rfl hl.1 rfl rfl (Nat.le_of_ble_eq_true rfl) ⟨(Nat.le_of_ble_eq_true rfl), (Nat.le_of_ble_eq_true rfl)⟩ dX7_shows_7 ⟨(Nat.le_of_ble_eq_true rfl), (Nat.le_of_ble_eq_true rfl)⟩) hP hD hS hA [0, 1] [] rfl rfl (by decide +kernel) (by decide +kernel) (fun r1 u1 H locs hp hP hD hS => ?_)
  have hp : (True) := hp
  have hP : va_P G cl [(a0, .inr (7, [.int v_V_0, .int v_V_1, .int v_V_2, .ref a1, .ref a2, .int v_V_5, .ref a3, .ref a4, .ref a5, .ref a6, .ref a7, .ref a8, .ref a9, .ref a10, .ref a11])), (a7, .inl (cI, 6, .inl g_V_worn))] H := hP
  have hD : va_D A [(a0, .inr (7, [.int v_V_0, .int v_V_1, .int v_V_2, .ref a1, .ref a2, .int v_V_5, .ref a3, .ref a4, .ref a5, .ref a6, .ref a7, .ref a8, .ref a9, .ref a10, .ref a11])), (a7, .inl (cI, 6, .inl g_V_worn))] := hD
  have hq1 := hp
  refine lv_imul hx hb dX7_shows_10 ?_
  refine lv_topi (fun z3 _ => ?_)
  refine lv_aload_n hx hb dX7_shows_11 rfl (lv_at hl 0 rfl) ?_
  refine lv_lload_n hx hb dX7_shows_12 rfl (lv_at hl 1 rfl) ?_
  refine k_ci (wr := [(a7, .inl (cI, 6, .inl g_V_worn))]) (k_rV hC hN hZ hS hA hK hP hD (c34_X7_armOf l G cI cJ cB cZ a0 a1 a2 a3 a4 a5 a6 a7 a8 a9 a10 a11 b1 v_V_0 v_V_1 v_V_2 v_V_5 hv_0 hv_1 hv_2 hv_3 hv_4 hv_5) [0] rfl (by decide +kernel) mi_X7_armOf in_X7_armOf se_X7_armOf wm_X7_105 7 0 rfl rfl rfl hl.1 rfl rfl (Nat.le_of_ble_eq_true rfl) ⟨(Nat.le_of_ble_eq_true rfl), (Nat.le_of_ble_eq_true rfl)⟩ dX7_shows_13 ⟨(Nat.le_of_ble_eq_true rfl), (Nat.le_of_ble_eq_true rfl)⟩) hP hD hS hA [0] [1] rfl rfl (by decide +kernel) (by decide +kernel) (fun r4 u4 H locs hp hP hD hS => ?_)
  have hp : (0 ≤ r4.toInt ∧ r4.toInt ≤ 117) := hp
  have hP : va_P G cl [(a7, .inl (cI, 6, .inl g_V_worn)), (a0, .inr (7, [.int v_V_0, .int v_V_1, .int v_V_2, .ref a1, .ref a2, .int v_V_5, .ref a3, .ref a4, .ref a5, .ref a6, .ref a7, .ref a8, .ref a9, .ref a10, .ref a11]))] H := hP
  have hD : va_D A [(a7, .inl (cI, 6, .inl g_V_worn)), (a0, .inr (7, [.int v_V_0, .int v_V_1, .int v_V_2, .ref a1, .ref a2, .int v_V_5, .ref a3, .ref a4, .ref a5, .ref a6, .ref a7, .ref a8, .ref a9, .ref a10, .ref a11]))] := hD
  have hq4 := hp
  refine lv_aload_n hx hb dX7_shows_16 rfl (lv_at hl 0 rfl) ?_
  refine lv_lload_n hx hb dX7_shows_17 rfl (lv_at hl 1 rfl) ?_
  refine lv_iload hx hb dX7_shows_18 (lv_at hl 3 rfl) ?_
  refine lv_iconst (v := 0) hx hb dX7_shows_20 (by decide) ?_
  have l_l6 : (0 : Int32).toInt = 0 := rfl
  refine k_ci (wr := []) (k_rV hC hN hZ hS hA hK hP hD (c36_X7_haveOf l G cI cJ cB cZ a0 a1 a2 a3 a4 a5 a6 a7 a8 a9 a10 a11 b1 b3 0 v_V_0 v_V_1 v_V_2 v_V_5 g_V_worn hv_0 hv_1 hv_2 hv_3 hv_4 hv_5) [1, 0] rfl (by decide +kernel) mi_X7_haveOf in_X7_haveOf se_X7_haveOf wm_X7_114 7 1 rfl rfl rfl hl.1 rfl rfl (Nat.le_of_ble_eq_true rfl) ⟨(Nat.le_of_ble_eq_true rfl), (Nat.le_of_ble_eq_true rfl)⟩ dX7_shows_21 ⟨(Nat.le_of_ble_eq_true rfl), (Nat.le_of_ble_eq_true rfl)⟩) hP hD hS hA [1, 0] [] rfl rfl (by decide +kernel) (by decide +kernel) (fun r5 u5 H locs hp hP hD hS => ?_)
  have hp : (True) := hp
  have hP : va_P G cl [(a0, .inr (7, [.int v_V_0, .int v_V_1, .int v_V_2, .ref a1, .ref a2, .int v_V_5, .ref a3, .ref a4, .ref a5, .ref a6, .ref a7, .ref a8, .ref a9, .ref a10, .ref a11])), (a7, .inl (cI, 6, .inl g_V_worn))] H := hP
  have hD : va_D A [(a0, .inr (7, [.int v_V_0, .int v_V_1, .int v_V_2, .ref a1, .ref a2, .int v_V_5, .ref a3, .ref a4, .ref a5, .ref a6, .ref a7, .ref a8, .ref a9, .ref a10, .ref a11])), (a7, .inl (cI, 6, .inl g_V_worn))] := hD
  have hq5 := hp
  refine lv_imul hx hb dX7_shows_24 ?_
  refine lv_topi (fun z7 _ => ?_)
  refine lv_isub hx hb dX7_shows_25 ?_
  refine lv_topi (fun z8 _ => ?_)
  refine k_ci (wr := [(a7, .inl (cI, 6, .inl g_V_worn))]) (k_rV hC hN hZ hS hA hK hP hD (c39_X7_verdict l G cI cJ cB cZ a0 a1 a2 a3 a4 a5 a6 a7 a8 a9 a10 a11 z8 v_V_0 v_V_1 v_V_2 v_V_5 hv_0 hv_1 hv_2 hv_3 hv_4 hv_5) [0] rfl (by decide +kernel) mi_X7_verdict in_X7_verdict se_X7_verdict wm_X7_118 7 0 rfl rfl rfl hl.1 rfl rfl (Nat.le_of_ble_eq_true rfl) ⟨(Nat.le_of_ble_eq_true rfl), (Nat.le_of_ble_eq_true rfl)⟩ dX7_shows_26 ⟨(Nat.le_of_ble_eq_true rfl), (Nat.le_of_ble_eq_true rfl)⟩) hP hD hS hA [0] [1] rfl rfl (by decide +kernel) (by decide +kernel) (fun r9 u9 H locs hp hP hD hS => ?_)
  have hp : (0 ≤ r9.toInt ∧ r9.toInt ≤ 2) := hp
  have hP : va_P G cl [(a7, .inl (cI, 6, .inl g_V_worn)), (a0, .inr (7, [.int v_V_0, .int v_V_1, .int v_V_2, .ref a1, .ref a2, .int v_V_5, .ref a3, .ref a4, .ref a5, .ref a6, .ref a7, .ref a8, .ref a9, .ref a10, .ref a11]))] H := hP
  have hD : va_D A [(a7, .inl (cI, 6, .inl g_V_worn)), (a0, .inr (7, [.int v_V_0, .int v_V_1, .int v_V_2, .ref a1, .ref a2, .int v_V_5, .ref a3, .ref a4, .ref a5, .ref a6, .ref a7, .ref a8, .ref a9, .ref a10, .ref a11]))] := hD
  have hq9 := hp
  rw [← hQm]
  exact k_iret hC hr hlk hK hP hD hS () [1, 0] rfl (by decide +kernel) (show 0 ≤ r9.toInt ∧ r9.toInt ≤ 2 from by omega) (Nat.le_of_ble_eq_true rfl) (Nat.le_of_ble_eq_true rfl) dX7_shows_29
theorem dX7_owedFor_0 : decode cX7_owedFor 0 = .ok (.iload_n 3, 1) := by decide +kernel
theorem dX7_owedFor_1 : decode cX7_owedFor 1 = .ok (.ifCond .lt 14, 3) := by decide +kernel
theorem dX7_owedFor_15 : decode cX7_owedFor 15 = .ok (.iconst 0, 1) := by decide +kernel
theorem dX7_owedFor_16 : decode cX7_owedFor 16 = .ok (.ireturn, 1) := by decide +kernel
theorem dX7_owedFor_4 : decode cX7_owedFor 4 = .ok (.iload_n 3, 1) := by decide +kernel
theorem dX7_owedFor_5 : decode cX7_owedFor 5 = .ok (.aload_n 0, 1) := by decide +kernel
theorem dX7_owedFor_6 : decode cX7_owedFor 6 = .ok (.getfield 52, 3) := by decide +kernel
theorem dX7_owedFor_9 : decode cX7_owedFor 9 = .ok (.getfield 81, 3) := by decide +kernel
theorem dX7_owedFor_12 : decode cX7_owedFor 12 = .ok (.if_icmp .lt 5, 3) := by decide +kernel
theorem dX7_owedFor_17 : decode cX7_owedFor 17 = .ok (.aload_n 0, 1) := by decide +kernel
theorem dX7_owedFor_18 : decode cX7_owedFor 18 = .ok (.getfield 52, 3) := by decide +kernel
theorem dX7_owedFor_21 : decode cX7_owedFor 21 = .ok (.getfield 122, 3) := by decide +kernel
set_option maxRecDepth 100000 in
theorem wf_X7_122 : Cond.fieldLinkNest RX7 122 "StoneTrust$Sales" "stones" "[I" "StoneTrust" ∈ nests := nm_ (List.mem_of_getElem? (i := 194) (by decide +kernel)) rfl
theorem dX7_owedFor_24 : decode cX7_owedFor 24 = .ok (.iload_n 3, 1) := by decide +kernel
theorem dX7_owedFor_25 : decode cX7_owedFor 25 = .ok (.iaload, 1) := by decide +kernel
theorem dX7_owedFor_26 : decode cX7_owedFor 26 = .ok (.istore 4, 2) := by decide +kernel
theorem dX7_owedFor_28 : decode cX7_owedFor 28 = .ok (.aload_n 0, 1) := by decide +kernel
theorem dX7_owedFor_29 : decode cX7_owedFor 29 = .ok (.getfield 52, 3) := by decide +kernel
theorem dX7_owedFor_32 : decode cX7_owedFor 32 = .ok (.getfield 124, 3) := by decide +kernel
set_option maxRecDepth 100000 in
theorem wf_X7_124 : Cond.fieldLinkNest RX7 124 "StoneTrust$Sales" "price" "[I" "StoneTrust" ∈ nests := nm_ (List.mem_of_getElem? (i := 200) (by decide +kernel)) rfl
theorem dX7_owedFor_35 : decode cX7_owedFor 35 = .ok (.iload_n 3, 1) := by decide +kernel
theorem dX7_owedFor_36 : decode cX7_owedFor 36 = .ok (.iaload, 1) := by decide +kernel
theorem dX7_owedFor_37 : decode cX7_owedFor 37 = .ok (.aload_n 0, 1) := by decide +kernel
theorem dX7_owedFor_38 : decode cX7_owedFor 38 = .ok (.lload_n 1, 1) := by decide +kernel
theorem dX7_owedFor_39 : decode cX7_owedFor 39 = .ok (.iload 4, 2) := by decide +kernel
theorem dX7_owedFor_41 : decode cX7_owedFor 41 = .ok (.invokevirtual 127, 3) := by decide +kernel
set_option maxRecDepth 100000 in
theorem wm_X7_127 : Cond.methodLink RX7 127 yX7_saidOf ∈ gw := gm (List.mem_of_getElem? (i := 1157) (by decide +kernel)) rfl
set_option maxRecDepth 100000 in
theorem mi_X7_saidOf : MI yX7_saidOf cX7_saidOf 6 (some .int) 2 := ⟨gm (List.mem_of_getElem? (i := 1160) rfl) rfl, gm (List.mem_of_getElem? (i := 113) (by decide +kernel)) rfl, by decide, by decide, by decide +kernel⟩
set_option maxRecDepth 100000 in
theorem in_X7_saidOf : Cond.instanceMethod yX7_saidOf ∈ gw := gm (List.mem_of_getElem? (i := 1158) (by decide +kernel)) rfl
set_option maxRecDepth 100000 in
theorem se_X7_saidOf : Cond.selects yX7_saidOf.cls yX7_saidOf yX7_saidOf ∈ gw := gm (List.mem_of_getElem? (i := 1159) (by decide +kernel)) rfl
theorem dX7_owedFor_44 : decode cX7_owedFor 44 = .ok (.aload_n 0, 1) := by decide +kernel
theorem dX7_owedFor_45 : decode cX7_owedFor 45 = .ok (.lload_n 1, 1) := by decide +kernel
theorem dX7_owedFor_46 : decode cX7_owedFor 46 = .ok (.iload 4, 2) := by decide +kernel
theorem dX7_owedFor_48 : decode cX7_owedFor 48 = .ok (.aload_n 0, 1) := by decide +kernel
theorem dX7_owedFor_49 : decode cX7_owedFor 49 = .ok (.getfield 52, 3) := by decide +kernel
theorem dX7_owedFor_52 : decode cX7_owedFor 52 = .ok (.getfield 130, 3) := by decide +kernel
set_option maxRecDepth 100000 in
theorem wf_X7_130 : Cond.fieldLinkNest RX7 130 "StoneTrust$Sales" "year" "[I" "StoneTrust" ∈ nests := nm_ (List.mem_of_getElem? (i := 196) (by decide +kernel)) rfl
theorem dX7_owedFor_55 : decode cX7_owedFor 55 = .ok (.iload_n 3, 1) := by decide +kernel
theorem dX7_owedFor_56 : decode cX7_owedFor 56 = .ok (.iaload, 1) := by decide +kernel
theorem dX7_owedFor_57 : decode cX7_owedFor 57 = .ok (.invokevirtual 114, 3) := by decide +kernel
theorem dX7_owedFor_60 : decode cX7_owedFor 60 = .ok (.isub, 1) := by decide +kernel
theorem dX7_owedFor_61 : decode cX7_owedFor 61 = .ok (.imul, 1) := by decide +kernel
theorem dX7_owedFor_62 : decode cX7_owedFor 62 = .ok (.ireturn, 1) := by decide +kernel
set_option maxHeartbeats 4000000 in
set_option maxRecDepth 100000 in
theorem c41_X7_owedFor (l : Launch) (G : va_G) (cI cJ cB cZ : ClassId) (a0 a1 a2 a3 a4 a5 a6 a7 a8 a9 a10 a11 a12 a13 a14 a15 : Nat) (b1 : Int64) (b2 : Int32) (v_V_0 : Int32) (v_V_1 : Int32) (v_V_2 : Int32) (v_V_5 : Int32) (v_Vs_4 : Int32) (g_Vs_stones : Nat → Int32) (g_Vs_price : Nat → Int32) (g_V_says : Nat → Int32) (g_V_town : Nat → Int32) (g_V_poundLow : Nat → Int32) (g_Vs_year : Nat → Int32) (g_V_worn : Nat → Int32) (hv_0 : 0 ≤ v_V_0.toInt) (hv_1 : v_V_0.toInt ≤ 110) (hv_2 : 0 ≤ v_V_1.toInt) (hv_3 : v_V_1.toInt ≤ 110) (hv_4 : 0 ≤ v_V_5.toInt) (hv_5 : v_V_5.toInt ≤ 6) (hv_6 : 0 ≤ v_Vs_4.toInt) (hv_7 : v_Vs_4.toInt ≤ 10) (hT_g_V_says : TA 0 9 g_V_says) (hT_g_V_poundLow : TA 0 40 g_V_poundLow) : Con l G (TY cI cJ cB cZ) yX7_owedFor cX7_owedFor 5 (some .int) ({ frames := 3, cells := 0, slots := 0, locals := 70 } : Room) [.ref a0, .long b1, .int b2] [(a0, .inr (7, [.int v_V_0, .int v_V_1, .int v_V_2, .ref a1, .ref a2, .int v_V_5, .ref a3, .ref a4, .ref a5, .ref a6, .ref a7, .ref a8, .ref a9, .ref a10, .ref a11])), (a11, .inr (3, [.ref a12, .ref a13, .ref a14, .ref a15, .int v_Vs_4])), (a12, .inl (cI, 10, .inl g_Vs_stones)), (a15, .inl (cI, 10, .inl g_Vs_price)), (a4, .inl (cI, 6, .inl g_V_says)), (a5, .inl (cI, 6, .inl g_V_town)), (a1, .inl (cI, 2, .inl g_V_poundLow)), (a13, .inl (cI, 10, .inl g_Vs_year)), (a7, .inl (cI, 6, .inl g_V_worn))] (QI G (TY cI cJ cB cZ) (fun (r : Int32) (u : Unit) => (True)) (fun u : Unit => [(a0, .inr (7, [.int v_V_0, .int v_V_1, .int v_V_2, .ref a1, .ref a2, .int v_V_5, .ref a3, .ref a4, .ref a5, .ref a6, .ref a7, .ref a8, .ref a9, .ref a10, .ref a11])), (a11, .inr (3, [.ref a12, .ref a13, .ref a14, .ref a15, .int v_Vs_4])), (a12, .inl (cI, 10, .inl g_Vs_stones)), (a15, .inl (cI, 10, .inl g_Vs_price)), (a4, .inl (cI, 6, .inl g_V_says)), (a5, .inl (cI, 6, .inl g_V_town)), (a1, .inl (cI, 2, .inl g_V_poundLow)), (a13, .inl (cI, 10, .inl g_Vs_year)), (a7, .inl (cI, 6, .inl g_V_worn))])) := by
  refine k_met (by decide) (Nat.le_of_ble_eq_true rfl) ?_
  intro p e s m below meth c A ls hC hr hlk hnm hN hZ hK hA hP hD hS hl
  have hl : lv_has ls 5 [(0, .ref a0), (1, .long b1), (3, .int b2)] := hl
  generalize hQm : MQ below _ _ s _ _ A = Qm
  generalize (List.toArray _ : Array Value) = args at hC hQm ⊢
  obtain ⟨hx, hb, hml, hown, hts⟩ := id hC
  obtain ⟨H, hH⟩ : ∃ q, q = s.heap := ⟨_, rfl⟩
  obtain ⟨locs, hlo⟩ : ∃ q : List Loc, q = [] := ⟨_, rfl⟩
  have hP : va_P G cl [(a0, .inr (7, [.int v_V_0, .int v_V_1, .int v_V_2, .ref a1, .ref a2, .int v_V_5, .ref a3, .ref a4, .ref a5, .ref a6, .ref a7, .ref a8, .ref a9, .ref a10, .ref a11])), (a11, .inr (3, [.ref a12, .ref a13, .ref a14, .ref a15, .int v_Vs_4])), (a12, .inl (cI, 10, .inl g_Vs_stones)), (a15, .inl (cI, 10, .inl g_Vs_price)), (a4, .inl (cI, 6, .inl g_V_says)), (a5, .inl (cI, 6, .inl g_V_town)), (a1, .inl (cI, 2, .inl g_V_poundLow)), (a13, .inl (cI, 10, .inl g_Vs_year)), (a7, .inl (cI, 6, .inl g_V_worn))] H := by rw [hH]; exact hP
  have hS : va_S A s.heap H locs := by rw [hH, hlo]; exact hS
  rw [← hlo]
  rw [← hH]
  refine lv_iload_n hx hb dX7_owedFor_0 rfl (lv_at hl 2 rfl) ?_
  refine lv_if_lt (tgt := 15) hx hb dX7_owedFor_1 (by decide) (fun c1 => ?_) (fun c1 => ?_)
  · have dc1 : b2.toInt < 0 := (fa_lt _ _).mp c1; have lbc1_0 := i_lo b2; have ubc1_0 := i_hi b2
    refine lv_iconst (v := 0) hx hb dX7_owedFor_15 (by decide) ?_
    have l_l2 : (0 : Int32).toInt = 0 := rfl
    rw [← hQm]
    exact k_iret hC hr hlk hK hP hD hS () [0, 1, 2, 3, 4, 5, 6, 7, 8] rfl (by decide +kernel) trivial (Nat.le_of_ble_eq_true rfl) (Nat.le_of_ble_eq_true rfl) dX7_owedFor_16
  · have dc1 : 0 ≤ b2.toInt := fa_nlt c1; have lbc1_0 := i_lo b2; have ubc1_0 := i_hi b2
    refine lv_iload_n hx hb dX7_owedFor_4 rfl (lv_at hl 2 rfl) ?_
    refine lv_aload_n hx hb dX7_owedFor_5 rfl (lv_at hl 0 rfl) ?_
    refine k_get hC hK hP iX7 0 14 wf_X7_52 rfl (by decide) rfl rfl dX7_owedFor_6 ?_
    refine k_getN hC hN hK hP iX3 1 4 wf_X7_81 rfl (by decide) rfl rfl dX7_owedFor_9 ?_
    refine lv_icmp_lt (tgt := 17) hx hb dX7_owedFor_12 (by decide) (fun c3 => ?_) (fun c3 => ?_)
    · have dc3 : b2.toInt < v_Vs_4.toInt := (fa_lt _ _).mp c3; have ubc3_0 := i_hi b2
      refine lv_aload_n hx hb dX7_owedFor_17 rfl (lv_at hl 0 rfl) ?_
      refine k_get hC hK hP iX7 0 14 wf_X7_52 rfl (by decide) rfl rfl dX7_owedFor_18 ?_
      refine k_getN hC hN hK hP iX3 1 0 wf_X7_122 rfl (by decide) rfl rfl dX7_owedFor_21 ?_
      refine lv_iload_n hx hb dX7_owedFor_24 rfl (lv_at hl 2 rfl) ?_
      refine t_iald hC hK hP 2 rfl (by omega) (by omega) (TA.all _) dX7_owedFor_25 (fun z4 tz4 => ?_)
      refine lv_istore (lv' := [(4, .int z4), (0, .ref a0), (1, .long b1), (3, .int b2)]) hx hb dX7_owedFor_26 hl (by decide) rfl (fun ls hl => ?_)
      refine lv_aload_n hx hb dX7_owedFor_28 rfl (lv_at hl 1 rfl) ?_
      refine k_get hC hK hP iX7 0 14 wf_X7_52 rfl (by decide) rfl rfl dX7_owedFor_29 ?_
      refine k_getN hC hN hK hP iX3 1 3 wf_X7_124 rfl (by decide) rfl rfl dX7_owedFor_32 ?_
      refine lv_iload_n hx hb dX7_owedFor_35 rfl (lv_at hl 3 rfl) ?_
      refine t_iald hC hK hP 3 rfl (by omega) (by omega) (TA.all _) dX7_owedFor_36 (fun z5 tz5 => ?_)
      refine lv_aload_n hx hb dX7_owedFor_37 rfl (lv_at hl 1 rfl) ?_
      refine lv_lload_n hx hb dX7_owedFor_38 rfl (lv_at hl 2 rfl) ?_
      refine lv_iload hx hb dX7_owedFor_39 (lv_at hl 0 rfl) ?_
      refine k_ci (wr := [(a11, .inr (3, [.ref a12, .ref a13, .ref a14, .ref a15, .int v_Vs_4])), (a12, .inl (cI, 10, .inl g_Vs_stones)), (a15, .inl (cI, 10, .inl g_Vs_price)), (a13, .inl (cI, 10, .inl g_Vs_year)), (a7, .inl (cI, 6, .inl g_V_worn))]) (k_rV hC hN hZ hS hA hK hP hD (c37_X7_saidOf l G cI cJ cB cZ a0 a1 a2 a3 a4 a5 a6 a7 a8 a9 a10 a11 b1 z4 v_V_0 v_V_1 v_V_2 v_V_5 g_V_says g_V_town g_V_poundLow hv_0 hv_1 hv_2 hv_3 hv_4 hv_5 hT_g_V_says hT_g_V_poundLow) [0, 4, 5, 6] rfl (by decide +kernel) mi_X7_saidOf in_X7_saidOf se_X7_saidOf wm_X7_127 7 0 rfl rfl rfl hl.1 rfl rfl (Nat.le_of_ble_eq_true rfl) ⟨(Nat.le_of_ble_eq_true rfl), (Nat.le_of_ble_eq_true rfl)⟩ dX7_owedFor_41 ⟨(Nat.le_of_ble_eq_true rfl), (Nat.le_of_ble_eq_true rfl)⟩) hP hD hS hA [0, 4, 5, 6] [1, 2, 3, 7, 8] rfl rfl (by decide +kernel) (by decide +kernel) (fun r6 u6 H locs hp hP hD hS => ?_)
      have hp : (True) := hp
      have hP : va_P G cl [(a11, .inr (3, [.ref a12, .ref a13, .ref a14, .ref a15, .int v_Vs_4])), (a12, .inl (cI, 10, .inl g_Vs_stones)), (a15, .inl (cI, 10, .inl g_Vs_price)), (a13, .inl (cI, 10, .inl g_Vs_year)), (a7, .inl (cI, 6, .inl g_V_worn)), (a0, .inr (7, [.int v_V_0, .int v_V_1, .int v_V_2, .ref a1, .ref a2, .int v_V_5, .ref a3, .ref a4, .ref a5, .ref a6, .ref a7, .ref a8, .ref a9, .ref a10, .ref a11])), (a4, .inl (cI, 6, .inl g_V_says)), (a5, .inl (cI, 6, .inl g_V_town)), (a1, .inl (cI, 2, .inl g_V_poundLow))] H := hP
      have hD : va_D A [(a11, .inr (3, [.ref a12, .ref a13, .ref a14, .ref a15, .int v_Vs_4])), (a12, .inl (cI, 10, .inl g_Vs_stones)), (a15, .inl (cI, 10, .inl g_Vs_price)), (a13, .inl (cI, 10, .inl g_Vs_year)), (a7, .inl (cI, 6, .inl g_V_worn)), (a0, .inr (7, [.int v_V_0, .int v_V_1, .int v_V_2, .ref a1, .ref a2, .int v_V_5, .ref a3, .ref a4, .ref a5, .ref a6, .ref a7, .ref a8, .ref a9, .ref a10, .ref a11])), (a4, .inl (cI, 6, .inl g_V_says)), (a5, .inl (cI, 6, .inl g_V_town)), (a1, .inl (cI, 2, .inl g_V_poundLow))] := hD
      have hq6 := hp
      refine lv_aload_n hx hb dX7_owedFor_44 rfl (lv_at hl 1 rfl) ?_
      refine lv_lload_n hx hb dX7_owedFor_45 rfl (lv_at hl 2 rfl) ?_
      refine lv_iload hx hb dX7_owedFor_46 (lv_at hl 0 rfl) ?_
      refine lv_aload_n hx hb dX7_owedFor_48 rfl (lv_at hl 1 rfl) ?_
      refine k_get hC hK hP iX7 5 14 wf_X7_52 rfl (by decide) rfl rfl dX7_owedFor_49 ?_
      refine k_getN hC hN hK hP iX3 0 1 wf_X7_130 rfl (by decide) rfl rfl dX7_owedFor_52 ?_
      refine lv_iload_n hx hb dX7_owedFor_55 rfl (lv_at hl 3 rfl) ?_
      refine t_iald hC hK hP 3 rfl (by omega) (by omega) (TA.all _) dX7_owedFor_56 (fun z7 tz7 => ?_)
      refine k_ci (wr := [(a11, .inr (3, [.ref a12, .ref a13, .ref a14, .ref a15, .int v_Vs_4])), (a12, .inl (cI, 10, .inl g_Vs_stones)), (a15, .inl (cI, 10, .inl g_Vs_price)), (a13, .inl (cI, 10, .inl g_Vs_year)), (a4, .inl (cI, 6, .inl g_V_says)), (a5, .inl (cI, 6, .inl g_V_town)), (a1, .inl (cI, 2, .inl g_V_poundLow))]) (k_rV hC hN hZ hS hA hK hP hD (c36_X7_haveOf l G cI cJ cB cZ a0 a1 a2 a3 a4 a5 a6 a7 a8 a9 a10 a11 b1 z4 z7 v_V_0 v_V_1 v_V_2 v_V_5 g_V_worn hv_0 hv_1 hv_2 hv_3 hv_4 hv_5) [5, 4] rfl (by decide +kernel) mi_X7_haveOf in_X7_haveOf se_X7_haveOf wm_X7_114 7 5 rfl rfl rfl hl.1 rfl rfl (Nat.le_of_ble_eq_true rfl) ⟨(Nat.le_of_ble_eq_true rfl), (Nat.le_of_ble_eq_true rfl)⟩ dX7_owedFor_57 ⟨(Nat.le_of_ble_eq_true rfl), (Nat.le_of_ble_eq_true rfl)⟩) hP hD hS hA [5, 4] [0, 1, 2, 3, 6, 7, 8] rfl rfl (by decide +kernel) (by decide +kernel) (fun r8 u8 H locs hp hP hD hS => ?_)
      have hp : (True) := hp
      have hP : va_P G cl [(a11, .inr (3, [.ref a12, .ref a13, .ref a14, .ref a15, .int v_Vs_4])), (a12, .inl (cI, 10, .inl g_Vs_stones)), (a15, .inl (cI, 10, .inl g_Vs_price)), (a13, .inl (cI, 10, .inl g_Vs_year)), (a4, .inl (cI, 6, .inl g_V_says)), (a5, .inl (cI, 6, .inl g_V_town)), (a1, .inl (cI, 2, .inl g_V_poundLow)), (a0, .inr (7, [.int v_V_0, .int v_V_1, .int v_V_2, .ref a1, .ref a2, .int v_V_5, .ref a3, .ref a4, .ref a5, .ref a6, .ref a7, .ref a8, .ref a9, .ref a10, .ref a11])), (a7, .inl (cI, 6, .inl g_V_worn))] H := hP
      have hD : va_D A [(a11, .inr (3, [.ref a12, .ref a13, .ref a14, .ref a15, .int v_Vs_4])), (a12, .inl (cI, 10, .inl g_Vs_stones)), (a15, .inl (cI, 10, .inl g_Vs_price)), (a13, .inl (cI, 10, .inl g_Vs_year)), (a4, .inl (cI, 6, .inl g_V_says)), (a5, .inl (cI, 6, .inl g_V_town)), (a1, .inl (cI, 2, .inl g_V_poundLow)), (a0, .inr (7, [.int v_V_0, .int v_V_1, .int v_V_2, .ref a1, .ref a2, .int v_V_5, .ref a3, .ref a4, .ref a5, .ref a6, .ref a7, .ref a8, .ref a9, .ref a10, .ref a11])), (a7, .inl (cI, 6, .inl g_V_worn))] := hD
      have hq8 := hp
      refine lv_isub hx hb dX7_owedFor_60 ?_
      refine lv_topi (fun z9 _ => ?_)
      refine lv_imul hx hb dX7_owedFor_61 ?_
      refine lv_topi (fun z10 _ => ?_)
      rw [← hQm]
      exact k_iret hC hr hlk hK hP hD hS () [7, 0, 1, 2, 4, 5, 6, 3, 8] rfl (by decide +kernel) trivial (Nat.le_of_ble_eq_true rfl) (Nat.le_of_ble_eq_true rfl) dX7_owedFor_62
    · have dc3 : v_Vs_4.toInt ≤ b2.toInt := fa_nlt c3; have ubc3_0 := i_hi b2
      refine lv_iconst (v := 0) hx hb dX7_owedFor_15 (by decide) ?_
      have l_l11 : (0 : Int32).toInt = 0 := rfl
      rw [← hQm]
      exact k_iret hC hr hlk hK hP hD hS () [0, 1, 2, 3, 4, 5, 6, 7, 8] rfl (by decide +kernel) trivial (Nat.le_of_ble_eq_true rfl) (Nat.le_of_ble_eq_true rfl) dX7_owedFor_16
theorem dX7_owedBy_0 : decode cX7_owedBy 0 = .ok (.iconst 0, 1) := by decide +kernel
theorem dX7_owedBy_1 : decode cX7_owedBy 1 = .ok (.istore 4, 2) := by decide +kernel
theorem dX7_owedBy_3 : decode cX7_owedBy 3 = .ok (.iconst 0, 1) := by decide +kernel
theorem dX7_owedBy_4 : decode cX7_owedBy 4 = .ok (.istore 5, 2) := by decide +kernel
theorem dX7_owedBy_6 : decode cX7_owedBy 6 = .ok (.iload 5, 2) := by decide +kernel
theorem dX7_owedBy_8 : decode cX7_owedBy 8 = .ok (.aload_n 0, 1) := by decide +kernel
theorem dX7_owedBy_9 : decode cX7_owedBy 9 = .ok (.getfield 52, 3) := by decide +kernel
theorem dX7_owedBy_12 : decode cX7_owedBy 12 = .ok (.getfield 81, 3) := by decide +kernel
theorem dX7_owedBy_15 : decode cX7_owedBy 15 = .ok (.if_icmp .ge 35, 3) := by decide +kernel
theorem dX7_owedBy_50 : decode cX7_owedBy 50 = .ok (.iload 4, 2) := by decide +kernel
theorem dX7_owedBy_52 : decode cX7_owedBy 52 = .ok (.ireturn, 1) := by decide +kernel
theorem dX7_owedBy_18 : decode cX7_owedBy 18 = .ok (.aload_n 0, 1) := by decide +kernel
theorem dX7_owedBy_19 : decode cX7_owedBy 19 = .ok (.getfield 52, 3) := by decide +kernel
theorem dX7_owedBy_22 : decode cX7_owedBy 22 = .ok (.getfield 133, 3) := by decide +kernel
set_option maxRecDepth 100000 in
theorem wf_X7_133 : Cond.fieldLinkNest RX7 133 "StoneTrust$Sales" "trader" "[I" "StoneTrust" ∈ nests := nm_ (List.mem_of_getElem? (i := 198) (by decide +kernel)) rfl
theorem dX7_owedBy_25 : decode cX7_owedBy 25 = .ok (.iload 5, 2) := by decide +kernel
theorem dX7_owedBy_27 : decode cX7_owedBy 27 = .ok (.iaload, 1) := by decide +kernel
theorem dX7_owedBy_28 : decode cX7_owedBy 28 = .ok (.iload_n 3, 1) := by decide +kernel
theorem dX7_owedBy_29 : decode cX7_owedBy 29 = .ok (.if_icmp .ne 15, 3) := by decide +kernel
theorem dX7_owedBy_44 : decode cX7_owedBy 44 = .ok (.iinc 5 1, 3) := by decide +kernel
theorem dX7_owedBy_47 : decode cX7_owedBy 47 = .ok (.goto (-41), 3) := by decide +kernel
theorem dX7_owedBy_32 : decode cX7_owedBy 32 = .ok (.iload 4, 2) := by decide +kernel
theorem dX7_owedBy_34 : decode cX7_owedBy 34 = .ok (.aload_n 0, 1) := by decide +kernel
theorem dX7_owedBy_35 : decode cX7_owedBy 35 = .ok (.lload_n 1, 1) := by decide +kernel
theorem dX7_owedBy_36 : decode cX7_owedBy 36 = .ok (.iload 5, 2) := by decide +kernel
theorem dX7_owedBy_38 : decode cX7_owedBy 38 = .ok (.invokevirtual 136, 3) := by decide +kernel
set_option maxRecDepth 100000 in
theorem wm_X7_136 : Cond.methodLink RX7 136 yX7_owedFor ∈ gw := gm (List.mem_of_getElem? (i := 1169) (by decide +kernel)) rfl
set_option maxRecDepth 100000 in
theorem mi_X7_owedFor : MI yX7_owedFor cX7_owedFor 5 (some .int) 2 := ⟨gm (List.mem_of_getElem? (i := 1156) rfl) rfl, gm (List.mem_of_getElem? (i := 113) (by decide +kernel)) rfl, by decide, by decide, by decide +kernel⟩
set_option maxRecDepth 100000 in
theorem in_X7_owedFor : Cond.instanceMethod yX7_owedFor ∈ gw := gm (List.mem_of_getElem? (i := 1154) (by decide +kernel)) rfl
set_option maxRecDepth 100000 in
theorem se_X7_owedFor : Cond.selects yX7_owedFor.cls yX7_owedFor yX7_owedFor ∈ gw := gm (List.mem_of_getElem? (i := 1155) (by decide +kernel)) rfl
theorem dX7_owedBy_41 : decode cX7_owedBy 41 = .ok (.iadd, 1) := by decide +kernel
theorem dX7_owedBy_42 : decode cX7_owedBy 42 = .ok (.istore 4, 2) := by decide +kernel
set_option maxHeartbeats 4000000 in
set_option maxRecDepth 100000 in
theorem c42_X7_owedBy (l : Launch) (G : va_G) (cI cJ cB cZ : ClassId) (a0 a1 a2 a3 a4 a5 a6 a7 a8 a9 a10 a11 a12 a13 a14 a15 : Nat) (b1 : Int64) (b2 : Int32) (v_V_0 : Int32) (v_V_1 : Int32) (v_V_2 : Int32) (v_V_5 : Int32) (v_Vs_4 : Int32) (g_Vs_trader : Nat → Int32) (g_Vs_stones : Nat → Int32) (g_Vs_price : Nat → Int32) (g_V_says : Nat → Int32) (g_V_town : Nat → Int32) (g_V_poundLow : Nat → Int32) (g_Vs_year : Nat → Int32) (g_V_worn : Nat → Int32) (hv_0 : 0 ≤ v_V_0.toInt) (hv_1 : v_V_0.toInt ≤ 110) (hv_2 : 0 ≤ v_V_1.toInt) (hv_3 : v_V_1.toInt ≤ 110) (hv_4 : 0 ≤ v_V_5.toInt) (hv_5 : v_V_5.toInt ≤ 6) (hv_6 : 0 ≤ v_Vs_4.toInt) (hv_7 : v_Vs_4.toInt ≤ 10) (hT_g_V_says : TA 0 9 g_V_says) (hT_g_V_poundLow : TA 0 40 g_V_poundLow) : Con l G (TY cI cJ cB cZ) yX7_owedBy cX7_owedBy 6 (some .int) ({ frames := 4, cells := 0, slots := 0, locals := 94 } : Room) [.ref a0, .long b1, .int b2] [(a0, .inr (7, [.int v_V_0, .int v_V_1, .int v_V_2, .ref a1, .ref a2, .int v_V_5, .ref a3, .ref a4, .ref a5, .ref a6, .ref a7, .ref a8, .ref a9, .ref a10, .ref a11])), (a11, .inr (3, [.ref a12, .ref a13, .ref a14, .ref a15, .int v_Vs_4])), (a14, .inl (cI, 10, .inl g_Vs_trader)), (a12, .inl (cI, 10, .inl g_Vs_stones)), (a15, .inl (cI, 10, .inl g_Vs_price)), (a4, .inl (cI, 6, .inl g_V_says)), (a5, .inl (cI, 6, .inl g_V_town)), (a1, .inl (cI, 2, .inl g_V_poundLow)), (a13, .inl (cI, 10, .inl g_Vs_year)), (a7, .inl (cI, 6, .inl g_V_worn))] (QI G (TY cI cJ cB cZ) (fun (r : Int32) (u : Unit) => (True)) (fun u : Unit => [(a0, .inr (7, [.int v_V_0, .int v_V_1, .int v_V_2, .ref a1, .ref a2, .int v_V_5, .ref a3, .ref a4, .ref a5, .ref a6, .ref a7, .ref a8, .ref a9, .ref a10, .ref a11])), (a11, .inr (3, [.ref a12, .ref a13, .ref a14, .ref a15, .int v_Vs_4])), (a14, .inl (cI, 10, .inl g_Vs_trader)), (a12, .inl (cI, 10, .inl g_Vs_stones)), (a15, .inl (cI, 10, .inl g_Vs_price)), (a4, .inl (cI, 6, .inl g_V_says)), (a5, .inl (cI, 6, .inl g_V_town)), (a1, .inl (cI, 2, .inl g_V_poundLow)), (a13, .inl (cI, 10, .inl g_Vs_year)), (a7, .inl (cI, 6, .inl g_V_worn))])) := by
  refine k_met (by decide) (Nat.le_of_ble_eq_true rfl) ?_
  intro p e s m below meth c A ls hC hr hlk hnm hN hZ hK hA hP hD hS hl
  have hl : lv_has ls 6 [(0, .ref a0), (1, .long b1), (3, .int b2)] := hl
  generalize hQm : MQ below _ _ s _ _ A = Qm
  generalize (List.toArray _ : Array Value) = args at hC hQm ⊢
  obtain ⟨hx, hb, hml, hown, hts⟩ := id hC
  obtain ⟨H, hH⟩ : ∃ q, q = s.heap := ⟨_, rfl⟩
  obtain ⟨locs, hlo⟩ : ∃ q : List Loc, q = [] := ⟨_, rfl⟩
  have hP : va_P G cl [(a0, .inr (7, [.int v_V_0, .int v_V_1, .int v_V_2, .ref a1, .ref a2, .int v_V_5, .ref a3, .ref a4, .ref a5, .ref a6, .ref a7, .ref a8, .ref a9, .ref a10, .ref a11])), (a11, .inr (3, [.ref a12, .ref a13, .ref a14, .ref a15, .int v_Vs_4])), (a14, .inl (cI, 10, .inl g_Vs_trader)), (a12, .inl (cI, 10, .inl g_Vs_stones)), (a15, .inl (cI, 10, .inl g_Vs_price)), (a4, .inl (cI, 6, .inl g_V_says)), (a5, .inl (cI, 6, .inl g_V_town)), (a1, .inl (cI, 2, .inl g_V_poundLow)), (a13, .inl (cI, 10, .inl g_Vs_year)), (a7, .inl (cI, 6, .inl g_V_worn))] H := by rw [hH]; exact hP
  have hS : va_S A s.heap H locs := by rw [hH, hlo]; exact hS
  rw [← hlo]
  rw [← hH]
  refine lv_iconst (v := 0) hx hb dX7_owedBy_0 (by decide) ?_
  refine lv_istore (lv' := [(4, .int 0), (0, .ref a0), (1, .long b1), (3, .int b2)]) hx hb dX7_owedBy_1 hl (by decide) rfl (fun ls hl => ?_)
  refine lv_iconst (v := 0) hx hb dX7_owedBy_3 (by decide) ?_
  refine lv_istore (lv' := [(5, .int 0), (4, .int 0), (0, .ref a0), (1, .long b1), (3, .int b2)]) hx hb dX7_owedBy_4 hl (by decide) rfl (fun ls hl => ?_)
  have L_6 : ∀ (n : Nat) (x1 : Int32) (x2 : Int32) (H : Heap) (locs : List Loc) (ls : Array Slot), (0 ≤ x1.toInt ∧ x1.toInt ≤ 10) → 10 - x1.toInt < (n : Int) → va_P G cl [(a0, .inr (7, [.int v_V_0, .int v_V_1, .int v_V_2, .ref a1, .ref a2, .int v_V_5, .ref a3, .ref a4, .ref a5, .ref a6, .ref a7, .ref a8, .ref a9, .ref a10, .ref a11])), (a11, .inr (3, [.ref a12, .ref a13, .ref a14, .ref a15, .int v_Vs_4])), (a14, .inl (cI, 10, .inl g_Vs_trader)), (a12, .inl (cI, 10, .inl g_Vs_stones)), (a15, .inl (cI, 10, .inl g_Vs_price)), (a4, .inl (cI, 6, .inl g_V_says)), (a5, .inl (cI, 6, .inl g_V_town)), (a1, .inl (cI, 2, .inl g_V_poundLow)), (a13, .inl (cI, 10, .inl g_Vs_year)), (a7, .inl (cI, 6, .inl g_V_worn))] H → va_D A [(a0, .inr (7, [.int v_V_0, .int v_V_1, .int v_V_2, .ref a1, .ref a2, .int v_V_5, .ref a3, .ref a4, .ref a5, .ref a6, .ref a7, .ref a8, .ref a9, .ref a10, .ref a11])), (a11, .inr (3, [.ref a12, .ref a13, .ref a14, .ref a15, .int v_Vs_4])), (a14, .inl (cI, 10, .inl g_Vs_trader)), (a12, .inl (cI, 10, .inl g_Vs_stones)), (a15, .inl (cI, 10, .inl g_Vs_price)), (a4, .inl (cI, 6, .inl g_V_says)), (a5, .inl (cI, 6, .inl g_V_town)), (a1, .inl (cI, 2, .inl g_V_poundLow)), (a13, .inl (cI, 10, .inl g_Vs_year)), (a7, .inl (cI, 6, .inl g_V_worn))] → va_S A s.heap H locs → lv_has ls 6 [(0, .ref a0), (1, .long b1), (3, .int b2), (4, .int x2), (5, .int x1)] → W p l e ({ frames := 4, cells := 0, slots := 0, locals := 94 } : Room) s m args below meth c H locs 0 0 Qm (F0 m 6 ls []) := by
    intro n
    induction n with
    | zero => intro x1 x2 H locs ls hv hm; omega
    | succ n ih =>
      intro x1 x2 H locs ls hv hm hP hD hS hl
      refine lv_iload hx hb dX7_owedBy_6 (lv_at hl 4 rfl) ?_
      refine lv_aload_n hx hb dX7_owedBy_8 rfl (lv_at hl 0 rfl) ?_
      refine k_get hC hK hP iX7 0 14 wf_X7_52 rfl (by decide) rfl rfl dX7_owedBy_9 ?_
      refine k_getN hC hN hK hP iX3 1 4 wf_X7_81 rfl (by decide) rfl rfl dX7_owedBy_12 ?_
      refine lv_icmp_ge (tgt := 50) hx hb dX7_owedBy_15 (by decide) (fun c3 => ?_) (fun c3 => ?_)
      · have dc3 : v_Vs_4.toInt ≤ x1.toInt := (fa_le _ _).mp c3
        refine lv_iload hx hb dX7_owedBy_50 (lv_at hl 3 rfl) ?_
        rw [← hQm]
        exact k_iret hC hr hlk hK hP hD hS () [0, 1, 2, 3, 4, 5, 6, 7, 8, 9] rfl (by decide +kernel) trivial (Nat.le_of_ble_eq_true rfl) (Nat.le_of_ble_eq_true rfl) dX7_owedBy_52
      · have dc3 : x1.toInt < v_Vs_4.toInt := fa_nle c3
        refine lv_aload_n hx hb dX7_owedBy_18 rfl (lv_at hl 0 rfl) ?_
        refine k_get hC hK hP iX7 0 14 wf_X7_52 rfl (by decide) rfl rfl dX7_owedBy_19 ?_
        refine k_getN hC hN hK hP iX3 1 2 wf_X7_133 rfl (by decide) rfl rfl dX7_owedBy_22 ?_
        refine lv_iload hx hb dX7_owedBy_25 (lv_at hl 4 rfl) ?_
        refine t_iald hC hK hP 2 rfl (by omega) (by omega) (TA.all _) dX7_owedBy_27 (fun z4 tz4 => ?_)
        refine lv_iload_n hx hb dX7_owedBy_28 rfl (lv_at hl 2 rfl) ?_
        refine lv_icmp_ne (tgt := 44) hx hb dX7_owedBy_29 (by decide) (fun c5 => ?_) (fun c5 => ?_)
        · have dc5 : z4.toInt ≠ b2.toInt := fa_ne c5; have lbc5_0 := i_lo z4; have ubc5_0 := i_hi z4; have lbc5_1 := i_lo b2; have ubc5_1 := i_hi b2
          obtain ⟨z6, ez6⟩ : ∃ q : Int32, q = x1 + Int32.ofInt 1 := ⟨_, rfl⟩
          have tz6 : z6.toInt = x1.toInt + 1 := by rw [ez6]; exact add_i (y := 1) (by have p_ := i_lo x1; show _ ≤ _ + (1 : Int); omega) (by have q_ := i_hi x1; show _ + (1 : Int) ≤ _; omega)
          refine lv_iinc (v := z6) (lv' := [(5, .int z6), (0, .ref a0), (1, .long b1), (3, .int b2), (4, .int x2)]) hx hb dX7_owedBy_44 hl (k := 4) rfl ez6.symm (by decide) rfl (fun ls hl => ?_)
          refine lv_goto (tgt := 6) hx hb dX7_owedBy_47 (by decide) ?_
          exact ih  z6 x2 H locs ls (by omega) (by omega) (hP.subm [0, 1, 2, 3, 4, 5, 6, 7, 8, 9] rfl) (hD.sub [0, 1, 2, 3, 4, 5, 6, 7, 8, 9] (by decide +kernel) rfl) hS (lv_sub hl [1, 2, 3, 4, 0] rfl)
        · have dc5 : z4.toInt = b2.toInt := (fa_eq _ _).mp c5; have lbc5_0 := i_lo z4; have ubc5_0 := i_hi z4; have lbc5_1 := i_lo b2; have ubc5_1 := i_hi b2
          refine lv_iload hx hb dX7_owedBy_32 (lv_at hl 3 rfl) ?_
          refine lv_aload_n hx hb dX7_owedBy_34 rfl (lv_at hl 0 rfl) ?_
          refine lv_lload_n hx hb dX7_owedBy_35 rfl (lv_at hl 1 rfl) ?_
          refine lv_iload hx hb dX7_owedBy_36 (lv_at hl 4 rfl) ?_
          refine k_ci (wr := [(a14, .inl (cI, 10, .inl g_Vs_trader))]) (k_rV hC hN hZ hS hA hK hP hD (c41_X7_owedFor l G cI cJ cB cZ a0 a1 a2 a3 a4 a5 a6 a7 a8 a9 a10 a11 a12 a13 a14 a15 b1 x1 v_V_0 v_V_1 v_V_2 v_V_5 v_Vs_4 g_Vs_stones g_Vs_price g_V_says g_V_town g_V_poundLow g_Vs_year g_V_worn hv_0 hv_1 hv_2 hv_3 hv_4 hv_5 hv_6 hv_7 hT_g_V_says hT_g_V_poundLow) [0, 1, 3, 4, 5, 6, 7, 8, 9] rfl (by decide +kernel) mi_X7_owedFor in_X7_owedFor se_X7_owedFor wm_X7_136 7 0 rfl rfl rfl hl.1 rfl rfl (Nat.le_of_ble_eq_true rfl) ⟨(Nat.le_of_ble_eq_true rfl), (Nat.le_of_ble_eq_true rfl)⟩ dX7_owedBy_38 ⟨(Nat.le_of_ble_eq_true rfl), (Nat.le_of_ble_eq_true rfl)⟩) hP hD hS hA [0, 1, 3, 4, 5, 6, 7, 8, 9] [2] rfl rfl (by decide +kernel) (by decide +kernel) (fun r7 u7 H locs hp hP hD hS => ?_)
          have hp : (True) := hp
          have hP : va_P G cl [(a14, .inl (cI, 10, .inl g_Vs_trader)), (a0, .inr (7, [.int v_V_0, .int v_V_1, .int v_V_2, .ref a1, .ref a2, .int v_V_5, .ref a3, .ref a4, .ref a5, .ref a6, .ref a7, .ref a8, .ref a9, .ref a10, .ref a11])), (a11, .inr (3, [.ref a12, .ref a13, .ref a14, .ref a15, .int v_Vs_4])), (a12, .inl (cI, 10, .inl g_Vs_stones)), (a15, .inl (cI, 10, .inl g_Vs_price)), (a4, .inl (cI, 6, .inl g_V_says)), (a5, .inl (cI, 6, .inl g_V_town)), (a1, .inl (cI, 2, .inl g_V_poundLow)), (a13, .inl (cI, 10, .inl g_Vs_year)), (a7, .inl (cI, 6, .inl g_V_worn))] H := hP
          have hD : va_D A [(a14, .inl (cI, 10, .inl g_Vs_trader)), (a0, .inr (7, [.int v_V_0, .int v_V_1, .int v_V_2, .ref a1, .ref a2, .int v_V_5, .ref a3, .ref a4, .ref a5, .ref a6, .ref a7, .ref a8, .ref a9, .ref a10, .ref a11])), (a11, .inr (3, [.ref a12, .ref a13, .ref a14, .ref a15, .int v_Vs_4])), (a12, .inl (cI, 10, .inl g_Vs_stones)), (a15, .inl (cI, 10, .inl g_Vs_price)), (a4, .inl (cI, 6, .inl g_V_says)), (a5, .inl (cI, 6, .inl g_V_town)), (a1, .inl (cI, 2, .inl g_V_poundLow)), (a13, .inl (cI, 10, .inl g_Vs_year)), (a7, .inl (cI, 6, .inl g_V_worn))] := hD
          have hq7 := hp
          refine lv_iadd hx hb dX7_owedBy_41 ?_
          refine lv_topi (fun z8 _ => ?_)
          refine lv_istore (lv' := [(4, .int z8), (0, .ref a0), (1, .long b1), (3, .int b2), (5, .int x1)]) hx hb dX7_owedBy_42 hl (by decide) rfl (fun ls hl => ?_)
          obtain ⟨z9, ez9⟩ : ∃ q : Int32, q = x1 + Int32.ofInt 1 := ⟨_, rfl⟩
          have tz9 : z9.toInt = x1.toInt + 1 := by rw [ez9]; exact add_i (y := 1) (by have p_ := i_lo x1; show _ ≤ _ + (1 : Int); omega) (by have q_ := i_hi x1; show _ + (1 : Int) ≤ _; omega)
          refine lv_iinc (v := z9) (lv' := [(5, .int z9), (4, .int z8), (0, .ref a0), (1, .long b1), (3, .int b2)]) hx hb dX7_owedBy_44 hl (k := 4) rfl ez9.symm (by decide) rfl (fun ls hl => ?_)
          refine lv_goto (tgt := 6) hx hb dX7_owedBy_47 (by decide) ?_
          exact ih  z9 z8 H locs ls (by omega) (by omega) (hP.subm [1, 2, 0, 3, 4, 5, 6, 7, 8, 9] rfl) (hD.sub [1, 2, 0, 3, 4, 5, 6, 7, 8, 9] (by decide +kernel) rfl) hS (lv_sub hl [2, 3, 4, 1, 0] rfl)
  have l_l10 : (0 : Int32).toInt = 0 := rfl
  exact L_6 11 0 0 H locs ls (by omega) (by omega) (hP.subm [0, 1, 2, 3, 4, 5, 6, 7, 8, 9] rfl) (hD.sub [0, 1, 2, 3, 4, 5, 6, 7, 8, 9] (by decide +kernel) rfl) hS (lv_sub hl [2, 3, 4, 1, 0] rfl)
theorem dJ9_floorDiv_7cf53_0 : decode cJ9_floorDiv_7cf53 0 = .ok (.iload_n 0, 1) := by decide +kernel
theorem dJ9_floorDiv_7cf53_1 : decode cJ9_floorDiv_7cf53 1 = .ok (.iload_n 1, 1) := by decide +kernel
theorem dJ9_floorDiv_7cf53_2 : decode cJ9_floorDiv_7cf53 2 = .ok (.idiv, 1) := by decide +kernel
theorem dJ9_floorDiv_7cf53_3 : decode cJ9_floorDiv_7cf53 3 = .ok (.istore_n 2, 1) := by decide +kernel
theorem dJ9_floorDiv_7cf53_4 : decode cJ9_floorDiv_7cf53 4 = .ok (.iload_n 0, 1) := by decide +kernel
theorem dJ9_floorDiv_7cf53_5 : decode cJ9_floorDiv_7cf53 5 = .ok (.iload_n 1, 1) := by decide +kernel
theorem dJ9_floorDiv_7cf53_6 : decode cJ9_floorDiv_7cf53 6 = .ok (.ixor, 1) := by decide +kernel
theorem dJ9_floorDiv_7cf53_7 : decode cJ9_floorDiv_7cf53 7 = .ok (.ifCond .ge 14, 3) := by decide +kernel
theorem dJ9_floorDiv_7cf53_21 : decode cJ9_floorDiv_7cf53 21 = .ok (.iload_n 2, 1) := by decide +kernel
theorem dJ9_floorDiv_7cf53_22 : decode cJ9_floorDiv_7cf53 22 = .ok (.ireturn, 1) := by decide +kernel
theorem dJ9_floorDiv_7cf53_10 : decode cJ9_floorDiv_7cf53 10 = .ok (.iload_n 2, 1) := by decide +kernel
theorem dJ9_floorDiv_7cf53_11 : decode cJ9_floorDiv_7cf53 11 = .ok (.iload_n 1, 1) := by decide +kernel
theorem dJ9_floorDiv_7cf53_12 : decode cJ9_floorDiv_7cf53 12 = .ok (.imul, 1) := by decide +kernel
theorem dJ9_floorDiv_7cf53_13 : decode cJ9_floorDiv_7cf53 13 = .ok (.iload_n 0, 1) := by decide +kernel
theorem dJ9_floorDiv_7cf53_14 : decode cJ9_floorDiv_7cf53 14 = .ok (.if_icmp .eq 7, 3) := by decide +kernel
theorem dJ9_floorDiv_7cf53_17 : decode cJ9_floorDiv_7cf53 17 = .ok (.iload_n 2, 1) := by decide +kernel
theorem dJ9_floorDiv_7cf53_18 : decode cJ9_floorDiv_7cf53 18 = .ok (.iconst 1, 1) := by decide +kernel
theorem dJ9_floorDiv_7cf53_19 : decode cJ9_floorDiv_7cf53 19 = .ok (.isub, 1) := by decide +kernel
theorem dJ9_floorDiv_7cf53_20 : decode cJ9_floorDiv_7cf53 20 = .ok (.ireturn, 1) := by decide +kernel
set_option maxHeartbeats 4000000 in
set_option maxRecDepth 100000 in
theorem c43_J9_floorDiv_7cf53 (l : Launch) (G : va_G) (cI cJ cB cZ : ClassId) (b0 : Int32) (b1 : Int32) (hv_0 : 1 ≤ b1.toInt) : Con l G (TY cI cJ cB cZ) yJ9_floorDiv_7cf53 cJ9_floorDiv_7cf53 3 (some .int) ({ frames := 0, cells := 0, slots := 0, locals := 0 } : Room) [.int b0, .int b1] [] (QI G (TY cI cJ cB cZ) (fun (r : Int32) (u : Unit) => (True)) (fun u : Unit => [])) := by
  refine k_metF (by decide +kernel) (Nat.le_of_ble_eq_true rfl) ?_
  intro p e s m below meth c A ls hC hr hlk hnm hN hZ hK hA hP hD hS hl
  have hl : lv_has ls 3 [(0, .int b0), (1, .int b1)] := hl
  generalize hQm : MQ below _ _ s _ _ A = Qm
  generalize (List.toArray _ : Array Value) = args at hC hQm ⊢
  obtain ⟨hx, hb, hml, hown, hts⟩ := id hC
  obtain ⟨H, hH⟩ : ∃ q, q = s.heap := ⟨_, rfl⟩
  obtain ⟨locs, hlo⟩ : ∃ q : List Loc, q = [] := ⟨_, rfl⟩
  have hP : va_P G cl [] H := by rw [hH]; exact hP
  have hS : va_S A s.heap H locs := by rw [hH, hlo]; exact hS
  rw [← hlo]
  rw [← hH]
  refine lv_iload_n hx hb dJ9_floorDiv_7cf53_0 rfl (lv_at hl 0 rfl) ?_
  refine lv_iload_n hx hb dJ9_floorDiv_7cf53_1 rfl (lv_at hl 1 rfl) ?_
  refine lv_idiv hx hb dJ9_floorDiv_7cf53_2 (ne0_of (by omega)) ?_
  refine lv_topi (fun z1 _ => ?_)
  refine lv_istore_n (lv' := [(2, .int z1), (0, .int b0), (1, .int b1)]) hx hb dJ9_floorDiv_7cf53_3 rfl hl (by decide) rfl (fun ls hl => ?_)
  refine lv_iload_n hx hb dJ9_floorDiv_7cf53_4 rfl (lv_at hl 1 rfl) ?_
  refine lv_iload_n hx hb dJ9_floorDiv_7cf53_5 rfl (lv_at hl 2 rfl) ?_
  refine lv_ixor hx hb dJ9_floorDiv_7cf53_6 ?_
  refine lv_topi (fun z2 _ => ?_)
  refine lv_if_ge (tgt := 21) hx hb dJ9_floorDiv_7cf53_7 (by decide) (fun c3 => ?_) (fun c3 => ?_)
  · have dc3 : 0 ≤ z2.toInt := (fa_le _ _).mp c3; have lbc3_1 := i_lo z2; have ubc3_1 := i_hi z2
    refine lv_iload_n hx hb dJ9_floorDiv_7cf53_21 rfl (lv_at hl 0 rfl) ?_
    rw [← hQm]
    exact k_iret hC hr hlk hK hP hD hS () [] rfl (by decide +kernel) trivial (Nat.le_of_ble_eq_true rfl) (Nat.le_of_ble_eq_true rfl) dJ9_floorDiv_7cf53_22
  · have dc3 : z2.toInt < 0 := fa_nle c3; have lbc3_1 := i_lo z2; have ubc3_1 := i_hi z2
    refine lv_iload_n hx hb dJ9_floorDiv_7cf53_10 rfl (lv_at hl 0 rfl) ?_
    refine lv_iload_n hx hb dJ9_floorDiv_7cf53_11 rfl (lv_at hl 2 rfl) ?_
    refine lv_imul hx hb dJ9_floorDiv_7cf53_12 ?_
    refine lv_topi (fun z4 _ => ?_)
    refine lv_iload_n hx hb dJ9_floorDiv_7cf53_13 rfl (lv_at hl 1 rfl) ?_
    refine lv_icmp_eq (tgt := 21) hx hb dJ9_floorDiv_7cf53_14 (by decide) (fun c5 => ?_) (fun c5 => ?_)
    · have dc5 : z4.toInt = b0.toInt := (fa_eq _ _).mp c5; have lbc5_0 := i_lo z4; have ubc5_0 := i_hi z4; have lbc5_1 := i_lo b0; have ubc5_1 := i_hi b0
      refine lv_iload_n hx hb dJ9_floorDiv_7cf53_21 rfl (lv_at hl 0 rfl) ?_
      rw [← hQm]
      exact k_iret hC hr hlk hK hP hD hS () [] rfl (by decide +kernel) trivial (Nat.le_of_ble_eq_true rfl) (Nat.le_of_ble_eq_true rfl) dJ9_floorDiv_7cf53_22
    · have dc5 : z4.toInt ≠ b0.toInt := fa_ne c5; have lbc5_0 := i_lo z4; have ubc5_0 := i_hi z4; have lbc5_1 := i_lo b0; have ubc5_1 := i_hi b0
      refine lv_iload_n hx hb dJ9_floorDiv_7cf53_17 rfl (lv_at hl 0 rfl) ?_
      refine lv_iconst (v := 1) hx hb dJ9_floorDiv_7cf53_18 (by decide) ?_
      refine lv_isub hx hb dJ9_floorDiv_7cf53_19 ?_
      refine lv_topi (fun z6 _ => ?_)
      rw [← hQm]
      exact k_iret hC hr hlk hK hP hD hS () [] rfl (by decide +kernel) trivial (Nat.le_of_ble_eq_true rfl) (Nat.le_of_ble_eq_true rfl) dJ9_floorDiv_7cf53_20
theorem dX1_narrow_0 : decode cX1_narrow 0 = .ok (.iload_n 3, 1) := by decide +kernel
theorem dX1_narrow_1 : decode cX1_narrow 1 = .ok (.ifCond .le 37, 3) := by decide +kernel
theorem dX1_narrow_38 : decode cX1_narrow 38 = .ok (.return_, 1) := by decide +kernel
theorem dX1_narrow_4 : decode cX1_narrow 4 = .ok (.aload_n 0, 1) := by decide +kernel
theorem dX1_narrow_5 : decode cX1_narrow 5 = .ok (.aload_n 0, 1) := by decide +kernel
theorem dX1_narrow_6 : decode cX1_narrow 6 = .ok (.getfield 22, 3) := by decide +kernel
theorem dX1_narrow_9 : decode cX1_narrow 9 = .ok (.iload_n 1, 1) := by decide +kernel
theorem dX1_narrow_10 : decode cX1_narrow 10 = .ok (.ineg, 1) := by decide +kernel
theorem dX1_narrow_11 : decode cX1_narrow 11 = .ok (.iload_n 3, 1) := by decide +kernel
theorem dX1_narrow_12 : decode cX1_narrow 12 = .ok (.invokestatic 29, 3) := by decide +kernel
set_option maxRecDepth 100000 in
theorem wm_X1_29 : Cond.methodLink RX1 29 yJ9_floorDiv_7cf53 ∈ gw := gm (List.mem_of_getElem? (i := 1205) (by decide +kernel)) rfl
set_option maxRecDepth 100000 in
theorem mi_J9_floorDiv_7cf53 : MI yJ9_floorDiv_7cf53 cJ9_floorDiv_7cf53 3 (some .int) 2 := ⟨gm (List.mem_of_getElem? (i := 921) rfl) rfl, gm (List.mem_of_getElem? (i := 115) (by decide +kernel)) rfl, by decide, by decide, by decide +kernel⟩
set_option maxRecDepth 100000 in
theorem st_J9_floorDiv_7cf53 : Cond.static yJ9_floorDiv_7cf53 ∈ gw := gm (List.mem_of_getElem? (i := 920) (by decide +kernel)) rfl
theorem dX1_narrow_15 : decode cX1_narrow 15 = .ok (.ineg, 1) := by decide +kernel
theorem dX1_narrow_16 : decode cX1_narrow 16 = .ok (.invokestatic 35, 3) := by decide +kernel
set_option maxRecDepth 100000 in
theorem wm_X1_35 : Cond.methodLink RX1 35 Lib.Math.max.name ∈ gw := gm (List.mem_of_getElem? (i := 1206) (by decide +kernel)) rfl
theorem dX1_narrow_19 : decode cX1_narrow 19 = .ok (.putfield 22, 3) := by decide +kernel
theorem dX1_narrow_22 : decode cX1_narrow 22 = .ok (.aload_n 0, 1) := by decide +kernel
theorem dX1_narrow_23 : decode cX1_narrow 23 = .ok (.aload_n 0, 1) := by decide +kernel
theorem dX1_narrow_24 : decode cX1_narrow 24 = .ok (.getfield 26, 3) := by decide +kernel
theorem dX1_narrow_27 : decode cX1_narrow 27 = .ok (.iload_n 2, 1) := by decide +kernel
theorem dX1_narrow_28 : decode cX1_narrow 28 = .ok (.iload_n 3, 1) := by decide +kernel
theorem dX1_narrow_29 : decode cX1_narrow 29 = .ok (.invokestatic 29, 3) := by decide +kernel
theorem dX1_narrow_32 : decode cX1_narrow 32 = .ok (.invokestatic 38, 3) := by decide +kernel
set_option maxRecDepth 100000 in
theorem wm_X1_38 : Cond.methodLink RX1 38 Lib.Math.min.name ∈ gw := gm (List.mem_of_getElem? (i := 1207) (by decide +kernel)) rfl
theorem dX1_narrow_35 : decode cX1_narrow 35 = .ok (.putfield 26, 3) := by decide +kernel
set_option maxHeartbeats 4000000 in
set_option maxRecDepth 100000 in
theorem c44_X1_narrow (l : Launch) (G : va_G) (cI cJ cB cZ : ClassId) (a0 : Nat) (b1 : Int32) (b2 : Int32) (b3 : Int32) (v_ra_0 : Int32) (v_ra_1 : Int32) (v_ra_2 : Int32) (v_ra_3 : Int32) (v_ra_4 : Int32) (hv_0 : 0 ≤ v_ra_0.toInt) (hv_1 : v_ra_0.toInt ≤ 1) : Con l G (TY cI cJ cB cZ) yX1_narrow cX1_narrow 4 none ({ frames := 1, cells := 0, slots := 0, locals := 22 } : Room) [.ref a0, .int b1, .int b2, .int b3] [(a0, .inr (1, [.int v_ra_0, .int v_ra_1, .int v_ra_2, .int v_ra_3, .int v_ra_4]))] (QV G (TY cI cJ cB cZ) (fun u : Int32 × Int32 => (True)) (fun u : Int32 × Int32 => [(a0, .inr (1, [.int v_ra_0, .int v_ra_1, .int v_ra_2, .int u.1, .int u.2]))])) := by
  refine k_met (by decide) (Nat.le_of_ble_eq_true rfl) ?_
  intro p e s m below meth c A ls hC hr hlk hnm hN hZ hK hA hP hD hS hl
  have hl : lv_has ls 4 [(0, .ref a0), (1, .int b1), (2, .int b2), (3, .int b3)] := hl
  generalize hQm : MQ below _ _ s _ _ A = Qm
  generalize (List.toArray _ : Array Value) = args at hC hQm ⊢
  obtain ⟨hx, hb, hml, hown, hts⟩ := id hC
  obtain ⟨H, hH⟩ : ∃ q, q = s.heap := ⟨_, rfl⟩
  obtain ⟨locs, hlo⟩ : ∃ q : List Loc, q = [] := ⟨_, rfl⟩
  have hP : va_P G cl [(a0, .inr (1, [.int v_ra_0, .int v_ra_1, .int v_ra_2, .int v_ra_3, .int v_ra_4]))] H := by rw [hH]; exact hP
  have hS : va_S A s.heap H locs := by rw [hH, hlo]; exact hS
  rw [← hlo]
  rw [← hH]
  refine lv_iload_n hx hb dX1_narrow_0 rfl (lv_at hl 3 rfl) ?_
  refine lv_if_le (tgt := 38) hx hb dX1_narrow_1 (by decide) (fun c1 => ?_) (fun c1 => ?_)
  · have dc1 : b3.toInt ≤ 0 := (fa_le _ _).mp c1; have lbc1_0 := i_lo b3; have ubc1_0 := i_hi b3
    rw [← hQm]
    exact k_vret hC hr hlk hK hP hD hS (v_ra_3, v_ra_4) [0] rfl (by decide +kernel) trivial (Nat.le_of_ble_eq_true rfl) (Nat.le_of_ble_eq_true rfl) dX1_narrow_38
  · have dc1 : 0 < b3.toInt := fa_nle c1; have lbc1_0 := i_lo b3; have ubc1_0 := i_hi b3
    refine lv_aload_n hx hb dX1_narrow_4 rfl (lv_at hl 0 rfl) ?_
    refine lv_aload_n hx hb dX1_narrow_5 rfl (lv_at hl 0 rfl) ?_
    refine k_get hC hK hP iX1 0 3 wf_X1_22 rfl (by decide) rfl rfl dX1_narrow_6 ?_
    refine lv_iload_n hx hb dX1_narrow_9 rfl (lv_at hl 1 rfl) ?_
    refine lv_ineg hx hb dX1_narrow_10 ?_
    refine lv_topi (fun z2 _ => ?_)
    refine lv_iload_n hx hb dX1_narrow_11 rfl (lv_at hl 3 rfl) ?_
    refine k_ci (wr := [(a0, .inr (1, [.int v_ra_0, .int v_ra_1, .int v_ra_2, .int v_ra_3, .int v_ra_4]))]) (k_rS hC hN hZ hS hA hK hP hD (c43_J9_floorDiv_7cf53 l G cI cJ cB cZ z2 b3 (by omega)) [] rfl (by decide +kernel) mi_J9_floorDiv_7cf53 st_J9_floorDiv_7cf53 wm_X1_29 hl.1 rfl rfl (Nat.le_of_ble_eq_true rfl) ⟨(Nat.le_of_ble_eq_true rfl), (Nat.le_of_ble_eq_true rfl)⟩ dX1_narrow_12 ⟨(Nat.le_of_ble_eq_true rfl), (Nat.le_of_ble_eq_true rfl)⟩) hP hD hS hA [] [0] rfl rfl (by decide +kernel) (by decide +kernel) (fun r3 u3 H locs hp hP hD hS => ?_)
    have hp : (True) := hp
    have hP : va_P G cl [(a0, .inr (1, [.int v_ra_0, .int v_ra_1, .int v_ra_2, .int v_ra_3, .int v_ra_4]))] H := hP
    have hD : va_D A [(a0, .inr (1, [.int v_ra_0, .int v_ra_1, .int v_ra_2, .int v_ra_3, .int v_ra_4]))] := hD
    have hq3 := hp
    refine lv_ineg hx hb dX1_narrow_15 ?_
    refine lv_topi (fun z4 _ => ?_)
    refine va_mmax hx hb (hml.trans hl.1.symm) hown (hts _ wm_X1_35) (hts _ st_Mmax) (hts _ ini_Math) (hts _ co_Mmax) (Nat.le_of_ble_eq_true rfl) (Nat.le_of_ble_eq_true rfl) (Nat.le_of_ble_eq_true rfl) (Nat.le_of_ble_eq_true rfl) dX1_narrow_16 ?_
    refine t_i (fun q => v_ra_3.toInt ≤ q.toInt ∧ z4.toInt ≤ q.toInt ∧ (q.toInt = v_ra_3.toInt ∨ q.toInt = z4.toInt)) (max_b v_ra_3 z4) (fun z5 tz5 => ?_)
    refine k_put hC hK hP hD hS iX1 tyX1_ok nmX1 0 3 wf_X1_22 rfl (by decide) rfl rfl rfl rfl (Nat.le_of_ble_eq_true rfl) dX1_narrow_19 (fun H locs hP hD hS => ?_)
    have hP : va_P G cl [(a0, .inr (1, [.int v_ra_0, .int v_ra_1, .int v_ra_2, .int z5, .int v_ra_4]))] H := hP
    have hD : va_D A [(a0, .inr (1, [.int v_ra_0, .int v_ra_1, .int v_ra_2, .int z5, .int v_ra_4]))] := hD
    refine lv_aload_n hx hb dX1_narrow_22 rfl (lv_at hl 0 rfl) ?_
    refine lv_aload_n hx hb dX1_narrow_23 rfl (lv_at hl 0 rfl) ?_
    refine k_get hC hK hP iX1 0 4 wf_X1_26 rfl (by decide) rfl rfl dX1_narrow_24 ?_
    refine lv_iload_n hx hb dX1_narrow_27 rfl (lv_at hl 2 rfl) ?_
    refine lv_iload_n hx hb dX1_narrow_28 rfl (lv_at hl 3 rfl) ?_
    refine k_ci (wr := [(a0, .inr (1, [.int v_ra_0, .int v_ra_1, .int v_ra_2, .int z5, .int v_ra_4]))]) (k_rS hC hN hZ hS hA hK hP hD (c43_J9_floorDiv_7cf53 l G cI cJ cB cZ b2 b3 (by omega)) [] rfl (by decide +kernel) mi_J9_floorDiv_7cf53 st_J9_floorDiv_7cf53 wm_X1_29 hl.1 rfl rfl (Nat.le_of_ble_eq_true rfl) ⟨(Nat.le_of_ble_eq_true rfl), (Nat.le_of_ble_eq_true rfl)⟩ dX1_narrow_29 ⟨(Nat.le_of_ble_eq_true rfl), (Nat.le_of_ble_eq_true rfl)⟩) hP hD hS hA [] [0] rfl rfl (by decide +kernel) (by decide +kernel) (fun r6 u6 H locs hp hP hD hS => ?_)
    have hp : (True) := hp
    have hP : va_P G cl [(a0, .inr (1, [.int v_ra_0, .int v_ra_1, .int v_ra_2, .int z5, .int v_ra_4]))] H := hP
    have hD : va_D A [(a0, .inr (1, [.int v_ra_0, .int v_ra_1, .int v_ra_2, .int z5, .int v_ra_4]))] := hD
    have hq6 := hp
    refine va_mmin hx hb (hml.trans hl.1.symm) hown (hts _ wm_X1_38) (hts _ st_Mmin) (hts _ ini_Math) (hts _ co_Mmin) (Nat.le_of_ble_eq_true rfl) (Nat.le_of_ble_eq_true rfl) (Nat.le_of_ble_eq_true rfl) (Nat.le_of_ble_eq_true rfl) dX1_narrow_32 ?_
    refine t_i (fun q => q.toInt ≤ v_ra_4.toInt ∧ q.toInt ≤ r6.toInt ∧ (q.toInt = v_ra_4.toInt ∨ q.toInt = r6.toInt)) (min_b v_ra_4 r6) (fun z7 tz7 => ?_)
    refine k_put hC hK hP hD hS iX1 tyX1_ok nmX1 0 4 wf_X1_26 rfl (by decide) rfl rfl rfl rfl (Nat.le_of_ble_eq_true rfl) dX1_narrow_35 (fun H locs hP hD hS => ?_)
    have hP : va_P G cl [(a0, .inr (1, [.int v_ra_0, .int v_ra_1, .int v_ra_2, .int z5, .int z7]))] H := hP
    have hD : va_D A [(a0, .inr (1, [.int v_ra_0, .int v_ra_1, .int v_ra_2, .int z5, .int z7]))] := hD
    rw [← hQm]
    exact k_vret hC hr hlk hK hP hD hS (z5, z7) [0] rfl (by decide +kernel) trivial (Nat.le_of_ble_eq_true rfl) (Nat.le_of_ble_eq_true rfl) dX1_narrow_38
theorem dX7_leftGoods_0 : decode cX7_leftGoods 0 = .ok (.aload_n 0, 1) := by decide +kernel
theorem dX7_leftGoods_1 : decode cX7_leftGoods 1 = .ok (.lload_n 1, 1) := by decide +kernel
theorem dX7_leftGoods_2 : decode cX7_leftGoods 2 = .ok (.invokevirtual 105, 3) := by decide +kernel
theorem dX7_leftGoods_5 : decode cX7_leftGoods 5 = .ok (.aload_n 0, 1) := by decide +kernel
theorem dX7_leftGoods_6 : decode cX7_leftGoods 6 = .ok (.lload_n 1, 1) := by decide +kernel
theorem dX7_leftGoods_7 : decode cX7_leftGoods 7 = .ok (.iload_n 3, 1) := by decide +kernel
theorem dX7_leftGoods_8 : decode cX7_leftGoods 8 = .ok (.iload 4, 2) := by decide +kernel
theorem dX7_leftGoods_10 : decode cX7_leftGoods 10 = .ok (.invokevirtual 114, 3) := by decide +kernel
theorem dX7_leftGoods_13 : decode cX7_leftGoods 13 = .ok (.imul, 1) := by decide +kernel
theorem dX7_leftGoods_14 : decode cX7_leftGoods 14 = .ok (.istore 6, 2) := by decide +kernel
theorem dX7_leftGoods_16 : decode cX7_leftGoods 16 = .ok (.aload 5, 2) := by decide +kernel
theorem dX7_leftGoods_18 : decode cX7_leftGoods 18 = .ok (.iload 6, 2) := by decide +kernel
theorem dX7_leftGoods_20 : decode cX7_leftGoods 20 = .ok (.bipush 100, 2) := by decide +kernel
theorem dX7_leftGoods_22 : decode cX7_leftGoods 22 = .ok (.aload_n 0, 1) := by decide +kernel
theorem dX7_leftGoods_23 : decode cX7_leftGoods 23 = .ok (.getfield 66, 3) := by decide +kernel
theorem dX7_leftGoods_26 : decode cX7_leftGoods 26 = .ok (.imul, 1) := by decide +kernel
theorem dX7_leftGoods_27 : decode cX7_leftGoods 27 = .ok (.isub, 1) := by decide +kernel
theorem dX7_leftGoods_28 : decode cX7_leftGoods 28 = .ok (.iload 6, 2) := by decide +kernel
theorem dX7_leftGoods_30 : decode cX7_leftGoods 30 = .ok (.bipush 100, 2) := by decide +kernel
theorem dX7_leftGoods_32 : decode cX7_leftGoods 32 = .ok (.aload_n 0, 1) := by decide +kernel
theorem dX7_leftGoods_33 : decode cX7_leftGoods 33 = .ok (.getfield 66, 3) := by decide +kernel
theorem dX7_leftGoods_36 : decode cX7_leftGoods 36 = .ok (.imul, 1) := by decide +kernel
theorem dX7_leftGoods_37 : decode cX7_leftGoods 37 = .ok (.iadd, 1) := by decide +kernel
theorem dX7_leftGoods_38 : decode cX7_leftGoods 38 = .ok (.bipush 100, 2) := by decide +kernel
theorem dX7_leftGoods_40 : decode cX7_leftGoods 40 = .ok (.invokevirtual 139, 3) := by decide +kernel
set_option maxRecDepth 100000 in
theorem wm_X7_139 : Cond.methodLink RX7 139 yX1_narrow ∈ gw := gm (List.mem_of_getElem? (i := 1201) (by decide +kernel)) rfl
set_option maxRecDepth 100000 in
theorem mi_X1_narrow : MI yX1_narrow cX1_narrow 4 none 3 := ⟨gm (List.mem_of_getElem? (i := 1204) rfl) rfl, gm (List.mem_of_getElem? (i := 123) (by decide +kernel)) rfl, by decide, by decide, by decide +kernel⟩
set_option maxRecDepth 100000 in
theorem in_X1_narrow : Cond.instanceMethod yX1_narrow ∈ gw := gm (List.mem_of_getElem? (i := 1202) (by decide +kernel)) rfl
set_option maxRecDepth 100000 in
theorem se_X1_narrow : Cond.selects yX1_narrow.cls yX1_narrow yX1_narrow ∈ gw := gm (List.mem_of_getElem? (i := 1203) (by decide +kernel)) rfl
theorem dX7_leftGoods_43 : decode cX7_leftGoods 43 = .ok (.return_, 1) := by decide +kernel
set_option maxHeartbeats 4000000 in
set_option maxRecDepth 100000 in
theorem c45_X7_leftGoods (l : Launch) (G : va_G) (cI cJ cB cZ : ClassId) (a0 a1 a2 a3 a4 a5 a6 a7 a8 a9 a10 a11 a12 : Nat) (b1 : Int64) (b2 : Int32) (b3 : Int32) (v_V_0 : Int32) (v_V_1 : Int32) (v_V_2 : Int32) (v_V_5 : Int32) (v_ra_0 : Int32) (v_ra_1 : Int32) (v_ra_2 : Int32) (v_ra_3 : Int32) (v_ra_4 : Int32) (g_V_worn : Nat → Int32) (hv_0 : 0 ≤ v_V_0.toInt) (hv_1 : v_V_0.toInt ≤ 110) (hv_2 : 0 ≤ v_V_1.toInt) (hv_3 : v_V_1.toInt ≤ 110) (hv_4 : 0 ≤ v_V_5.toInt) (hv_5 : v_V_5.toInt ≤ 6) (hv_6 : 0 ≤ v_ra_0.toInt) (hv_7 : v_ra_0.toInt ≤ 1) : Con l G (TY cI cJ cB cZ) yX7_leftGoods cX7_leftGoods 7 none ({ frames := 2, cells := 0, slots := 0, locals := 48 } : Room) [.ref a0, .long b1, .int b2, .int b3, .ref a1] [(a0, .inr (7, [.int v_V_0, .int v_V_1, .int v_V_2, .ref a2, .ref a3, .int v_V_5, .ref a4, .ref a5, .ref a6, .ref a7, .ref a8, .ref a9, .ref a10, .ref a11, .ref a12])), (a8, .inl (cI, 6, .inl g_V_worn)), (a1, .inr (1, [.int v_ra_0, .int v_ra_1, .int v_ra_2, .int v_ra_3, .int v_ra_4]))] (QV G (TY cI cJ cB cZ) (fun u : Int32 × Int32 => (True)) (fun u : Int32 × Int32 => [(a0, .inr (7, [.int v_V_0, .int v_V_1, .int v_V_2, .ref a2, .ref a3, .int v_V_5, .ref a4, .ref a5, .ref a6, .ref a7, .ref a8, .ref a9, .ref a10, .ref a11, .ref a12])), (a8, .inl (cI, 6, .inl g_V_worn)), (a1, .inr (1, [.int v_ra_0, .int v_ra_1, .int v_ra_2, .int u.1, .int u.2]))])) := by
  refine k_met (by decide) (Nat.le_of_ble_eq_true rfl) ?_
  intro p e s m below meth c A ls hC hr hlk hnm hN hZ hK hA hP hD hS hl
  have hl : lv_has ls 7 [(0, .ref a0), (1, .long b1), (3, .int b2), (4, .int b3), (5, .ref a1)] := hl
  generalize hQm : MQ below _ _ s _ _ A = Qm
  generalize (List.toArray _ : Array Value) = args at hC hQm ⊢
  obtain ⟨hx, hb, hml, hown, hts⟩ := id hC
  obtain ⟨H, hH⟩ : ∃ q, q = s.heap := ⟨_, rfl⟩
  obtain ⟨locs, hlo⟩ : ∃ q : List Loc, q = [] := ⟨_, rfl⟩
  have hP : va_P G cl [(a0, .inr (7, [.int v_V_0, .int v_V_1, .int v_V_2, .ref a2, .ref a3, .int v_V_5, .ref a4, .ref a5, .ref a6, .ref a7, .ref a8, .ref a9, .ref a10, .ref a11, .ref a12])), (a8, .inl (cI, 6, .inl g_V_worn)), (a1, .inr (1, [.int v_ra_0, .int v_ra_1, .int v_ra_2, .int v_ra_3, .int v_ra_4]))] H := by rw [hH]; exact hP
  have hS : va_S A s.heap H locs := by rw [hH, hlo]; exact hS
  rw [← hlo]
  rw [← hH]
  refine lv_aload_n hx hb dX7_leftGoods_0 rfl (lv_at hl 0 rfl) ?_
  refine lv_lload_n hx hb dX7_leftGoods_1 rfl (lv_at hl 1 rfl) ?_
  refine k_ci (wr := [(a8, .inl (cI, 6, .inl g_V_worn)), (a1, .inr (1, [.int v_ra_0, .int v_ra_1, .int v_ra_2, .int v_ra_3, .int v_ra_4]))]) (k_rV hC hN hZ hS hA hK hP hD (c34_X7_armOf l G cI cJ cB cZ a0 a2 a3 a4 a5 a6 a7 a8 a9 a10 a11 a12 b1 v_V_0 v_V_1 v_V_2 v_V_5 hv_0 hv_1 hv_2 hv_3 hv_4 hv_5) [0] rfl (by decide +kernel) mi_X7_armOf in_X7_armOf se_X7_armOf wm_X7_105 7 0 rfl rfl rfl hl.1 rfl rfl (Nat.le_of_ble_eq_true rfl) ⟨(Nat.le_of_ble_eq_true rfl), (Nat.le_of_ble_eq_true rfl)⟩ dX7_leftGoods_2 ⟨(Nat.le_of_ble_eq_true rfl), (Nat.le_of_ble_eq_true rfl)⟩) hP hD hS hA [0] [1, 2] rfl rfl (by decide +kernel) (by decide +kernel) (fun r1 u1 H locs hp hP hD hS => ?_)
  have hp : (0 ≤ r1.toInt ∧ r1.toInt ≤ 117) := hp
  have hP : va_P G cl [(a8, .inl (cI, 6, .inl g_V_worn)), (a1, .inr (1, [.int v_ra_0, .int v_ra_1, .int v_ra_2, .int v_ra_3, .int v_ra_4])), (a0, .inr (7, [.int v_V_0, .int v_V_1, .int v_V_2, .ref a2, .ref a3, .int v_V_5, .ref a4, .ref a5, .ref a6, .ref a7, .ref a8, .ref a9, .ref a10, .ref a11, .ref a12]))] H := hP
  have hD : va_D A [(a8, .inl (cI, 6, .inl g_V_worn)), (a1, .inr (1, [.int v_ra_0, .int v_ra_1, .int v_ra_2, .int v_ra_3, .int v_ra_4])), (a0, .inr (7, [.int v_V_0, .int v_V_1, .int v_V_2, .ref a2, .ref a3, .int v_V_5, .ref a4, .ref a5, .ref a6, .ref a7, .ref a8, .ref a9, .ref a10, .ref a11, .ref a12]))] := hD
  have hq1 := hp
  refine lv_aload_n hx hb dX7_leftGoods_5 rfl (lv_at hl 0 rfl) ?_
  refine lv_lload_n hx hb dX7_leftGoods_6 rfl (lv_at hl 1 rfl) ?_
  refine lv_iload_n hx hb dX7_leftGoods_7 rfl (lv_at hl 2 rfl) ?_
  refine lv_iload hx hb dX7_leftGoods_8 (lv_at hl 3 rfl) ?_
  refine k_ci (wr := [(a1, .inr (1, [.int v_ra_0, .int v_ra_1, .int v_ra_2, .int v_ra_3, .int v_ra_4]))]) (k_rV hC hN hZ hS hA hK hP hD (c36_X7_haveOf l G cI cJ cB cZ a0 a2 a3 a4 a5 a6 a7 a8 a9 a10 a11 a12 b1 b2 b3 v_V_0 v_V_1 v_V_2 v_V_5 g_V_worn hv_0 hv_1 hv_2 hv_3 hv_4 hv_5) [2, 0] rfl (by decide +kernel) mi_X7_haveOf in_X7_haveOf se_X7_haveOf wm_X7_114 7 2 rfl rfl rfl hl.1 rfl rfl (Nat.le_of_ble_eq_true rfl) ⟨(Nat.le_of_ble_eq_true rfl), (Nat.le_of_ble_eq_true rfl)⟩ dX7_leftGoods_10 ⟨(Nat.le_of_ble_eq_true rfl), (Nat.le_of_ble_eq_true rfl)⟩) hP hD hS hA [2, 0] [1] rfl rfl (by decide +kernel) (by decide +kernel) (fun r2 u2 H locs hp hP hD hS => ?_)
  have hp : (True) := hp
  have hP : va_P G cl [(a1, .inr (1, [.int v_ra_0, .int v_ra_1, .int v_ra_2, .int v_ra_3, .int v_ra_4])), (a0, .inr (7, [.int v_V_0, .int v_V_1, .int v_V_2, .ref a2, .ref a3, .int v_V_5, .ref a4, .ref a5, .ref a6, .ref a7, .ref a8, .ref a9, .ref a10, .ref a11, .ref a12])), (a8, .inl (cI, 6, .inl g_V_worn))] H := hP
  have hD : va_D A [(a1, .inr (1, [.int v_ra_0, .int v_ra_1, .int v_ra_2, .int v_ra_3, .int v_ra_4])), (a0, .inr (7, [.int v_V_0, .int v_V_1, .int v_V_2, .ref a2, .ref a3, .int v_V_5, .ref a4, .ref a5, .ref a6, .ref a7, .ref a8, .ref a9, .ref a10, .ref a11, .ref a12])), (a8, .inl (cI, 6, .inl g_V_worn))] := hD
  have hq2 := hp
  refine lv_imul hx hb dX7_leftGoods_13 ?_
  refine lv_topi (fun z3 _ => ?_)
  refine lv_istore (lv' := [(6, .int z3), (0, .ref a0), (1, .long b1), (3, .int b2), (4, .int b3), (5, .ref a1)]) hx hb dX7_leftGoods_14 hl (by decide) rfl (fun ls hl => ?_)
  refine lv_aload hx hb dX7_leftGoods_16 (lv_at hl 5 rfl) ?_
  refine lv_iload hx hb dX7_leftGoods_18 (lv_at hl 0 rfl) ?_
  refine lv_bipush (v := 100) hx hb dX7_leftGoods_20 (by decide) ?_
  refine lv_aload_n hx hb dX7_leftGoods_22 rfl (lv_at hl 1 rfl) ?_
  refine k_get hC hK hP iX7 1 2 wf_X7_66 rfl (by decide) rfl rfl dX7_leftGoods_23 ?_
  refine lv_imul hx hb dX7_leftGoods_26 ?_
  refine lv_topi (fun z4 _ => ?_)
  refine lv_isub hx hb dX7_leftGoods_27 ?_
  refine lv_topi (fun z5 _ => ?_)
  refine lv_iload hx hb dX7_leftGoods_28 (lv_at hl 0 rfl) ?_
  refine lv_bipush (v := 100) hx hb dX7_leftGoods_30 (by decide) ?_
  refine lv_aload_n hx hb dX7_leftGoods_32 rfl (lv_at hl 1 rfl) ?_
  refine k_get hC hK hP iX7 1 2 wf_X7_66 rfl (by decide) rfl rfl dX7_leftGoods_33 ?_
  refine lv_imul hx hb dX7_leftGoods_36 ?_
  refine lv_topi (fun z6 _ => ?_)
  refine lv_iadd hx hb dX7_leftGoods_37 ?_
  refine lv_topi (fun z7 _ => ?_)
  refine lv_bipush (v := 100) hx hb dX7_leftGoods_38 (by decide) ?_
  have l_l9 : (100 : Int32).toInt = 100 := rfl
  refine k_cv (wr := [(a0, .inr (7, [.int v_V_0, .int v_V_1, .int v_V_2, .ref a2, .ref a3, .int v_V_5, .ref a4, .ref a5, .ref a6, .ref a7, .ref a8, .ref a9, .ref a10, .ref a11, .ref a12])), (a8, .inl (cI, 6, .inl g_V_worn))]) (k_rV hC hN hZ hS hA hK hP hD (c44_X1_narrow l G cI cJ cB cZ a1 z5 z7 100 v_ra_0 v_ra_1 v_ra_2 v_ra_3 v_ra_4 hv_6 hv_7) [0] rfl (by decide +kernel) mi_X1_narrow in_X1_narrow se_X1_narrow wm_X7_139 1 0 rfl rfl rfl hl.1 rfl rfl (Nat.le_of_ble_eq_true rfl) ⟨(Nat.le_of_ble_eq_true rfl), (Nat.le_of_ble_eq_true rfl)⟩ dX7_leftGoods_40 ⟨(Nat.le_of_ble_eq_true rfl), (Nat.le_of_ble_eq_true rfl)⟩) hP hD hS hA [0] [1, 2] rfl rfl (by decide +kernel) (by decide +kernel) (fun u8 H locs hp hP hD hS => ?_)
  obtain ⟨h10, h11⟩ := u8
  have hp : (True) := hp
  have hP : va_P G cl [(a0, .inr (7, [.int v_V_0, .int v_V_1, .int v_V_2, .ref a2, .ref a3, .int v_V_5, .ref a4, .ref a5, .ref a6, .ref a7, .ref a8, .ref a9, .ref a10, .ref a11, .ref a12])), (a8, .inl (cI, 6, .inl g_V_worn)), (a1, .inr (1, [.int v_ra_0, .int v_ra_1, .int v_ra_2, .int h10, .int h11]))] H := hP
  have hD : va_D A [(a0, .inr (7, [.int v_V_0, .int v_V_1, .int v_V_2, .ref a2, .ref a3, .int v_V_5, .ref a4, .ref a5, .ref a6, .ref a7, .ref a8, .ref a9, .ref a10, .ref a11, .ref a12])), (a8, .inl (cI, 6, .inl g_V_worn)), (a1, .inr (1, [.int v_ra_0, .int v_ra_1, .int v_ra_2, .int h10, .int h11]))] := hD
  have hq8 := hp
  rw [← hQm]
  exact k_vret hC hr hlk hK hP hD hS (h10, h11) [0, 1, 2] rfl (by decide +kernel) trivial (Nat.le_of_ble_eq_true rfl) (Nat.le_of_ble_eq_true rfl) dX7_leftGoods_43
theorem dX7_rightGoods_0 : decode cX7_rightGoods 0 = .ok (.bipush 100, 2) := by decide +kernel
theorem dX7_rightGoods_2 : decode cX7_rightGoods 2 = .ok (.aload_n 0, 1) := by decide +kernel
theorem dX7_rightGoods_3 : decode cX7_rightGoods 3 = .ok (.lload_n 1, 1) := by decide +kernel
theorem dX7_rightGoods_4 : decode cX7_rightGoods 4 = .ok (.iload_n 3, 1) := by decide +kernel
theorem dX7_rightGoods_5 : decode cX7_rightGoods 5 = .ok (.iload 4, 2) := by decide +kernel
theorem dX7_rightGoods_7 : decode cX7_rightGoods 7 = .ok (.invokevirtual 114, 3) := by decide +kernel
theorem dX7_rightGoods_10 : decode cX7_rightGoods 10 = .ok (.imul, 1) := by decide +kernel
theorem dX7_rightGoods_11 : decode cX7_rightGoods 11 = .ok (.istore 6, 2) := by decide +kernel
theorem dX7_rightGoods_13 : decode cX7_rightGoods 13 = .ok (.aload 5, 2) := by decide +kernel
theorem dX7_rightGoods_15 : decode cX7_rightGoods 15 = .ok (.iload 6, 2) := by decide +kernel
theorem dX7_rightGoods_17 : decode cX7_rightGoods 17 = .ok (.bipush 100, 2) := by decide +kernel
theorem dX7_rightGoods_19 : decode cX7_rightGoods 19 = .ok (.aload_n 0, 1) := by decide +kernel
theorem dX7_rightGoods_20 : decode cX7_rightGoods 20 = .ok (.getfield 66, 3) := by decide +kernel
theorem dX7_rightGoods_23 : decode cX7_rightGoods 23 = .ok (.imul, 1) := by decide +kernel
theorem dX7_rightGoods_24 : decode cX7_rightGoods 24 = .ok (.isub, 1) := by decide +kernel
theorem dX7_rightGoods_25 : decode cX7_rightGoods 25 = .ok (.iload 6, 2) := by decide +kernel
theorem dX7_rightGoods_27 : decode cX7_rightGoods 27 = .ok (.bipush 100, 2) := by decide +kernel
theorem dX7_rightGoods_29 : decode cX7_rightGoods 29 = .ok (.aload_n 0, 1) := by decide +kernel
theorem dX7_rightGoods_30 : decode cX7_rightGoods 30 = .ok (.getfield 66, 3) := by decide +kernel
theorem dX7_rightGoods_33 : decode cX7_rightGoods 33 = .ok (.imul, 1) := by decide +kernel
theorem dX7_rightGoods_34 : decode cX7_rightGoods 34 = .ok (.iadd, 1) := by decide +kernel
theorem dX7_rightGoods_35 : decode cX7_rightGoods 35 = .ok (.aload_n 0, 1) := by decide +kernel
theorem dX7_rightGoods_36 : decode cX7_rightGoods 36 = .ok (.lload_n 1, 1) := by decide +kernel
theorem dX7_rightGoods_37 : decode cX7_rightGoods 37 = .ok (.invokevirtual 105, 3) := by decide +kernel
theorem dX7_rightGoods_40 : decode cX7_rightGoods 40 = .ok (.invokevirtual 139, 3) := by decide +kernel
theorem dX7_rightGoods_43 : decode cX7_rightGoods 43 = .ok (.return_, 1) := by decide +kernel
set_option maxHeartbeats 4000000 in
set_option maxRecDepth 100000 in
theorem c46_X7_rightGoods (l : Launch) (G : va_G) (cI cJ cB cZ : ClassId) (a0 a1 a2 a3 a4 a5 a6 a7 a8 a9 a10 a11 a12 : Nat) (b1 : Int64) (b2 : Int32) (b3 : Int32) (v_V_0 : Int32) (v_V_1 : Int32) (v_V_2 : Int32) (v_V_5 : Int32) (v_ra_0 : Int32) (v_ra_1 : Int32) (v_ra_2 : Int32) (v_ra_3 : Int32) (v_ra_4 : Int32) (g_V_worn : Nat → Int32) (hv_0 : 0 ≤ v_V_0.toInt) (hv_1 : v_V_0.toInt ≤ 110) (hv_2 : 0 ≤ v_V_1.toInt) (hv_3 : v_V_1.toInt ≤ 110) (hv_4 : 0 ≤ v_V_5.toInt) (hv_5 : v_V_5.toInt ≤ 6) (hv_6 : 0 ≤ v_ra_0.toInt) (hv_7 : v_ra_0.toInt ≤ 1) : Con l G (TY cI cJ cB cZ) yX7_rightGoods cX7_rightGoods 7 none ({ frames := 2, cells := 0, slots := 0, locals := 48 } : Room) [.ref a0, .long b1, .int b2, .int b3, .ref a1] [(a0, .inr (7, [.int v_V_0, .int v_V_1, .int v_V_2, .ref a2, .ref a3, .int v_V_5, .ref a4, .ref a5, .ref a6, .ref a7, .ref a8, .ref a9, .ref a10, .ref a11, .ref a12])), (a8, .inl (cI, 6, .inl g_V_worn)), (a1, .inr (1, [.int v_ra_0, .int v_ra_1, .int v_ra_2, .int v_ra_3, .int v_ra_4]))] (QV G (TY cI cJ cB cZ) (fun u : Int32 × Int32 => (True)) (fun u : Int32 × Int32 => [(a0, .inr (7, [.int v_V_0, .int v_V_1, .int v_V_2, .ref a2, .ref a3, .int v_V_5, .ref a4, .ref a5, .ref a6, .ref a7, .ref a8, .ref a9, .ref a10, .ref a11, .ref a12])), (a8, .inl (cI, 6, .inl g_V_worn)), (a1, .inr (1, [.int v_ra_0, .int v_ra_1, .int v_ra_2, .int u.1, .int u.2]))])) := by
  refine k_met (by decide) (Nat.le_of_ble_eq_true rfl) ?_
  intro p e s m below meth c A ls hC hr hlk hnm hN hZ hK hA hP hD hS hl
  have hl : lv_has ls 7 [(0, .ref a0), (1, .long b1), (3, .int b2), (4, .int b3), (5, .ref a1)] := hl
  generalize hQm : MQ below _ _ s _ _ A = Qm
  generalize (List.toArray _ : Array Value) = args at hC hQm ⊢
  obtain ⟨hx, hb, hml, hown, hts⟩ := id hC
  obtain ⟨H, hH⟩ : ∃ q, q = s.heap := ⟨_, rfl⟩
  obtain ⟨locs, hlo⟩ : ∃ q : List Loc, q = [] := ⟨_, rfl⟩
  have hP : va_P G cl [(a0, .inr (7, [.int v_V_0, .int v_V_1, .int v_V_2, .ref a2, .ref a3, .int v_V_5, .ref a4, .ref a5, .ref a6, .ref a7, .ref a8, .ref a9, .ref a10, .ref a11, .ref a12])), (a8, .inl (cI, 6, .inl g_V_worn)), (a1, .inr (1, [.int v_ra_0, .int v_ra_1, .int v_ra_2, .int v_ra_3, .int v_ra_4]))] H := by rw [hH]; exact hP
  have hS : va_S A s.heap H locs := by rw [hH, hlo]; exact hS
  rw [← hlo]
  rw [← hH]
  refine lv_bipush (v := 100) hx hb dX7_rightGoods_0 (by decide) ?_
  refine lv_aload_n hx hb dX7_rightGoods_2 rfl (lv_at hl 0 rfl) ?_
  refine lv_lload_n hx hb dX7_rightGoods_3 rfl (lv_at hl 1 rfl) ?_
  refine lv_iload_n hx hb dX7_rightGoods_4 rfl (lv_at hl 2 rfl) ?_
  refine lv_iload hx hb dX7_rightGoods_5 (lv_at hl 3 rfl) ?_
  refine k_ci (wr := [(a1, .inr (1, [.int v_ra_0, .int v_ra_1, .int v_ra_2, .int v_ra_3, .int v_ra_4]))]) (k_rV hC hN hZ hS hA hK hP hD (c36_X7_haveOf l G cI cJ cB cZ a0 a2 a3 a4 a5 a6 a7 a8 a9 a10 a11 a12 b1 b2 b3 v_V_0 v_V_1 v_V_2 v_V_5 g_V_worn hv_0 hv_1 hv_2 hv_3 hv_4 hv_5) [0, 1] rfl (by decide +kernel) mi_X7_haveOf in_X7_haveOf se_X7_haveOf wm_X7_114 7 0 rfl rfl rfl hl.1 rfl rfl (Nat.le_of_ble_eq_true rfl) ⟨(Nat.le_of_ble_eq_true rfl), (Nat.le_of_ble_eq_true rfl)⟩ dX7_rightGoods_7 ⟨(Nat.le_of_ble_eq_true rfl), (Nat.le_of_ble_eq_true rfl)⟩) hP hD hS hA [0, 1] [2] rfl rfl (by decide +kernel) (by decide +kernel) (fun r1 u1 H locs hp hP hD hS => ?_)
  have hp : (True) := hp
  have hP : va_P G cl [(a1, .inr (1, [.int v_ra_0, .int v_ra_1, .int v_ra_2, .int v_ra_3, .int v_ra_4])), (a0, .inr (7, [.int v_V_0, .int v_V_1, .int v_V_2, .ref a2, .ref a3, .int v_V_5, .ref a4, .ref a5, .ref a6, .ref a7, .ref a8, .ref a9, .ref a10, .ref a11, .ref a12])), (a8, .inl (cI, 6, .inl g_V_worn))] H := hP
  have hD : va_D A [(a1, .inr (1, [.int v_ra_0, .int v_ra_1, .int v_ra_2, .int v_ra_3, .int v_ra_4])), (a0, .inr (7, [.int v_V_0, .int v_V_1, .int v_V_2, .ref a2, .ref a3, .int v_V_5, .ref a4, .ref a5, .ref a6, .ref a7, .ref a8, .ref a9, .ref a10, .ref a11, .ref a12])), (a8, .inl (cI, 6, .inl g_V_worn))] := hD
  have hq1 := hp
  refine lv_imul hx hb dX7_rightGoods_10 ?_
  refine lv_topi (fun z2 _ => ?_)
  refine lv_istore (lv' := [(6, .int z2), (0, .ref a0), (1, .long b1), (3, .int b2), (4, .int b3), (5, .ref a1)]) hx hb dX7_rightGoods_11 hl (by decide) rfl (fun ls hl => ?_)
  refine lv_aload hx hb dX7_rightGoods_13 (lv_at hl 5 rfl) ?_
  refine lv_iload hx hb dX7_rightGoods_15 (lv_at hl 0 rfl) ?_
  refine lv_bipush (v := 100) hx hb dX7_rightGoods_17 (by decide) ?_
  refine lv_aload_n hx hb dX7_rightGoods_19 rfl (lv_at hl 1 rfl) ?_
  refine k_get hC hK hP iX7 1 2 wf_X7_66 rfl (by decide) rfl rfl dX7_rightGoods_20 ?_
  refine lv_imul hx hb dX7_rightGoods_23 ?_
  refine lv_topi (fun z3 _ => ?_)
  refine lv_isub hx hb dX7_rightGoods_24 ?_
  refine lv_topi (fun z4 _ => ?_)
  refine lv_iload hx hb dX7_rightGoods_25 (lv_at hl 0 rfl) ?_
  refine lv_bipush (v := 100) hx hb dX7_rightGoods_27 (by decide) ?_
  refine lv_aload_n hx hb dX7_rightGoods_29 rfl (lv_at hl 1 rfl) ?_
  refine k_get hC hK hP iX7 1 2 wf_X7_66 rfl (by decide) rfl rfl dX7_rightGoods_30 ?_
  refine lv_imul hx hb dX7_rightGoods_33 ?_
  refine lv_topi (fun z5 _ => ?_)
  refine lv_iadd hx hb dX7_rightGoods_34 ?_
  refine lv_topi (fun z6 _ => ?_)
  refine lv_aload_n hx hb dX7_rightGoods_35 rfl (lv_at hl 1 rfl) ?_
  refine lv_lload_n hx hb dX7_rightGoods_36 rfl (lv_at hl 2 rfl) ?_
  refine k_ci (wr := [(a1, .inr (1, [.int v_ra_0, .int v_ra_1, .int v_ra_2, .int v_ra_3, .int v_ra_4])), (a8, .inl (cI, 6, .inl g_V_worn))]) (k_rV hC hN hZ hS hA hK hP hD (c34_X7_armOf l G cI cJ cB cZ a0 a2 a3 a4 a5 a6 a7 a8 a9 a10 a11 a12 b1 v_V_0 v_V_1 v_V_2 v_V_5 hv_0 hv_1 hv_2 hv_3 hv_4 hv_5) [1] rfl (by decide +kernel) mi_X7_armOf in_X7_armOf se_X7_armOf wm_X7_105 7 1 rfl rfl rfl hl.1 rfl rfl (Nat.le_of_ble_eq_true rfl) ⟨(Nat.le_of_ble_eq_true rfl), (Nat.le_of_ble_eq_true rfl)⟩ dX7_rightGoods_37 ⟨(Nat.le_of_ble_eq_true rfl), (Nat.le_of_ble_eq_true rfl)⟩) hP hD hS hA [1] [0, 2] rfl rfl (by decide +kernel) (by decide +kernel) (fun r7 u7 H locs hp hP hD hS => ?_)
  have hp : (0 ≤ r7.toInt ∧ r7.toInt ≤ 117) := hp
  have hP : va_P G cl [(a1, .inr (1, [.int v_ra_0, .int v_ra_1, .int v_ra_2, .int v_ra_3, .int v_ra_4])), (a8, .inl (cI, 6, .inl g_V_worn)), (a0, .inr (7, [.int v_V_0, .int v_V_1, .int v_V_2, .ref a2, .ref a3, .int v_V_5, .ref a4, .ref a5, .ref a6, .ref a7, .ref a8, .ref a9, .ref a10, .ref a11, .ref a12]))] H := hP
  have hD : va_D A [(a1, .inr (1, [.int v_ra_0, .int v_ra_1, .int v_ra_2, .int v_ra_3, .int v_ra_4])), (a8, .inl (cI, 6, .inl g_V_worn)), (a0, .inr (7, [.int v_V_0, .int v_V_1, .int v_V_2, .ref a2, .ref a3, .int v_V_5, .ref a4, .ref a5, .ref a6, .ref a7, .ref a8, .ref a9, .ref a10, .ref a11, .ref a12]))] := hD
  have hq7 := hp
  refine k_cv (wr := [(a8, .inl (cI, 6, .inl g_V_worn)), (a0, .inr (7, [.int v_V_0, .int v_V_1, .int v_V_2, .ref a2, .ref a3, .int v_V_5, .ref a4, .ref a5, .ref a6, .ref a7, .ref a8, .ref a9, .ref a10, .ref a11, .ref a12]))]) (k_rV hC hN hZ hS hA hK hP hD (c44_X1_narrow l G cI cJ cB cZ a1 z4 z6 r7 v_ra_0 v_ra_1 v_ra_2 v_ra_3 v_ra_4 hv_6 hv_7) [0] rfl (by decide +kernel) mi_X1_narrow in_X1_narrow se_X1_narrow wm_X7_139 1 0 rfl rfl rfl hl.1 rfl rfl (Nat.le_of_ble_eq_true rfl) ⟨(Nat.le_of_ble_eq_true rfl), (Nat.le_of_ble_eq_true rfl)⟩ dX7_rightGoods_40 ⟨(Nat.le_of_ble_eq_true rfl), (Nat.le_of_ble_eq_true rfl)⟩) hP hD hS hA [0] [1, 2] rfl rfl (by decide +kernel) (by decide +kernel) (fun u8 H locs hp hP hD hS => ?_)
  obtain ⟨h9, h10⟩ := u8
  have hp : (True) := hp
  have hP : va_P G cl [(a8, .inl (cI, 6, .inl g_V_worn)), (a0, .inr (7, [.int v_V_0, .int v_V_1, .int v_V_2, .ref a2, .ref a3, .int v_V_5, .ref a4, .ref a5, .ref a6, .ref a7, .ref a8, .ref a9, .ref a10, .ref a11, .ref a12])), (a1, .inr (1, [.int v_ra_0, .int v_ra_1, .int v_ra_2, .int h9, .int h10]))] H := hP
  have hD : va_D A [(a8, .inl (cI, 6, .inl g_V_worn)), (a0, .inr (7, [.int v_V_0, .int v_V_1, .int v_V_2, .ref a2, .ref a3, .int v_V_5, .ref a4, .ref a5, .ref a6, .ref a7, .ref a8, .ref a9, .ref a10, .ref a11, .ref a12])), (a1, .inr (1, [.int v_ra_0, .int v_ra_1, .int v_ra_2, .int h9, .int h10]))] := hD
  have hq8 := hp
  rw [← hQm]
  exact k_vret hC hr hlk hK hP hD hS (h9, h10) [1, 0, 2] rfl (by decide +kernel) trivial (Nat.le_of_ble_eq_true rfl) (Nat.le_of_ble_eq_true rfl) dX7_rightGoods_43
theorem dX2_refuse_0 : decode cX2_refuse 0 = .ok (.aload_n 0, 1) := by decide +kernel
theorem dX2_refuse_1 : decode cX2_refuse 1 = .ok (.aload_n 0, 1) := by decide +kernel
theorem dX2_refuse_2 : decode cX2_refuse 2 = .ok (.getfield 12, 3) := by decide +kernel
set_option maxRecDepth 100000 in
theorem wf_X2_12 : Cond.fieldLink RX2 12 "StoneTrust$Reader" "tape" "LStoneTrust$Tape;" ∈ gw := gm (List.mem_of_getElem? (i := 339) (by decide +kernel)) rfl
theorem dX2_refuse_5 : decode cX2_refuse 5 = .ok (.getfield 51, 3) := by decide +kernel
set_option maxRecDepth 100000 in
theorem wf_X2_51 : Cond.fieldLinkNest RX2 51 "StoneTrust$Tape" "kind" "I" "StoneTrust" ∈ nests := nm_ (List.mem_of_getElem? (i := 316) (by decide +kernel)) rfl
theorem dX2_refuse_8 : decode cX2_refuse 8 = .ok (.iconst 4, 1) := by decide +kernel
theorem dX2_refuse_9 : decode cX2_refuse 9 = .ok (.if_icmp .ne 7, 3) := by decide +kernel
theorem dX2_refuse_16 : decode cX2_refuse 16 = .ok (.iload_n 1, 1) := by decide +kernel
theorem dX2_refuse_17 : decode cX2_refuse 17 = .ok (.putfield 39, 3) := by decide +kernel
set_option maxRecDepth 100000 in
theorem wf_X2_39 : Cond.fieldLink RX2 39 "StoneTrust$Reader" "fault" "I" ∈ gw := gm (List.mem_of_getElem? (i := 346) (by decide +kernel)) rfl
theorem dX2_refuse_20 : decode cX2_refuse 20 = .ok (.aload_n 0, 1) := by decide +kernel
theorem dX2_refuse_21 : decode cX2_refuse 21 = .ok (.aload_n 0, 1) := by decide +kernel
theorem dX2_refuse_22 : decode cX2_refuse 22 = .ok (.getfield 12, 3) := by decide +kernel
theorem dX2_refuse_25 : decode cX2_refuse 25 = .ok (.getfield 58, 3) := by decide +kernel
set_option maxRecDepth 100000 in
theorem wf_X2_58 : Cond.fieldLinkNest RX2 58 "StoneTrust$Tape" "place" "I" "StoneTrust" ∈ nests := nm_ (List.mem_of_getElem? (i := 314) (by decide +kernel)) rfl
theorem dX2_refuse_28 : decode cX2_refuse 28 = .ok (.putfield 42, 3) := by decide +kernel
set_option maxRecDepth 100000 in
theorem wf_X2_42 : Cond.fieldLink RX2 42 "StoneTrust$Reader" "faultPlace" "I" ∈ gw := gm (List.mem_of_getElem? (i := 348) (by decide +kernel)) rfl
theorem dX2_refuse_31 : decode cX2_refuse 31 = .ok (.iconst 0, 1) := by decide +kernel
theorem dX2_refuse_32 : decode cX2_refuse 32 = .ok (.ireturn, 1) := by decide +kernel
theorem dX2_refuse_12 : decode cX2_refuse 12 = .ok (.iconst 1, 1) := by decide +kernel
theorem dX2_refuse_13 : decode cX2_refuse 13 = .ok (.goto 4, 3) := by decide +kernel
set_option maxHeartbeats 4000000 in
set_option maxRecDepth 100000 in
theorem c47_X2_refuse (l : Launch) (G : va_G) (cI cJ cB cZ : ClassId) (a0 a1 a2 a3 : Nat) (b1 : Int32) (v_rd_2 : Int32) (v_rd_3 : Int32) (v_rd_4 : Int32) (v_rd_5 : Int32) (v_rd_6 : Int32) (v_rd_7 : Int32) (v_tp_1 : Int32) (v_tp_2 : Int32) (v_tp_3 : Int32) (v_tp_4 : Int32) (w_tp_5 : Int64) (v_tp_6 : Int32) (hv_0 : 0 ≤ v_rd_3.toInt) (hv_1 : v_rd_3.toInt ≤ 1) (hv_2 : 0 ≤ v_rd_4.toInt) (hv_3 : v_rd_4.toInt ≤ 1) (hv_4 : 0 ≤ v_tp_1.toInt) (hv_5 : v_tp_1.toInt ≤ 1300) (hv_6 : 0 ≤ v_tp_2.toInt) (hv_7 : v_tp_2.toInt ≤ 1300) : Con l G (TY cI cJ cB cZ) yX2_refuse cX2_refuse 2 (some .boolean) ({ frames := 0, cells := 0, slots := 0, locals := 0 } : Room) [.ref a0, .int b1] [(a0, .inr (2, [.ref a1, .ref a2, .int v_rd_2, .int v_rd_3, .int v_rd_4, .int v_rd_5, .int v_rd_6, .int v_rd_7])), (a1, .inr (5, [.ref a3, .int v_tp_1, .int v_tp_2, .int v_tp_3, .int v_tp_4, .long w_tp_5, .int v_tp_6]))] (QI G (TY cI cJ cB cZ) (fun (r : Int32) (u : Int32 × Int32) => (r = 0 ∧ True)) (fun u : Int32 × Int32 => [(a0, .inr (2, [.ref a1, .ref a2, .int v_rd_2, .int v_rd_3, .int v_rd_4, .int v_rd_5, .int u.1, .int u.2])), (a1, .inr (5, [.ref a3, .int v_tp_1, .int v_tp_2, .int v_tp_3, .int v_tp_4, .long w_tp_5, .int v_tp_6]))])) := by
  refine k_met (by decide) (Nat.le_of_ble_eq_true rfl) ?_
  intro p e s m below meth c A ls hC hr hlk hnm hN hZ hK hA hP hD hS hl
  have hl : lv_has ls 2 [(0, .ref a0), (1, .int b1)] := hl
  generalize hQm : MQ below _ _ s _ _ A = Qm
  generalize (List.toArray _ : Array Value) = args at hC hQm ⊢
  obtain ⟨hx, hb, hml, hown, hts⟩ := id hC
  obtain ⟨H, hH⟩ : ∃ q, q = s.heap := ⟨_, rfl⟩
  obtain ⟨locs, hlo⟩ : ∃ q : List Loc, q = [] := ⟨_, rfl⟩
  have hP : va_P G cl [(a0, .inr (2, [.ref a1, .ref a2, .int v_rd_2, .int v_rd_3, .int v_rd_4, .int v_rd_5, .int v_rd_6, .int v_rd_7])), (a1, .inr (5, [.ref a3, .int v_tp_1, .int v_tp_2, .int v_tp_3, .int v_tp_4, .long w_tp_5, .int v_tp_6]))] H := by rw [hH]; exact hP
  have hS : va_S A s.heap H locs := by rw [hH, hlo]; exact hS
  rw [← hlo]
  rw [← hH]
  refine lv_aload_n hx hb dX2_refuse_0 rfl (lv_at hl 0 rfl) ?_
  refine lv_aload_n hx hb dX2_refuse_1 rfl (lv_at hl 0 rfl) ?_
  refine k_get hC hK hP iX2 0 0 wf_X2_12 rfl (by decide) rfl rfl dX2_refuse_2 ?_
  refine k_getN hC hN hK hP iX5 1 4 wf_X2_51 rfl (by decide) rfl rfl dX2_refuse_5 ?_
  refine lv_iconst (v := 4) hx hb dX2_refuse_8 (by decide) ?_
  refine lv_icmp_ne (tgt := 16) hx hb dX2_refuse_9 (by decide) (fun c1 => ?_) (fun c1 => ?_)
  · have dc1 : v_tp_4.toInt ≠ 4 := fa_ne c1; have lbc1_0 := i_lo v_tp_4; have ubc1_0 := i_hi v_tp_4
    refine lv_iload_n hx hb dX2_refuse_16 rfl (lv_at hl 1 rfl) ?_
    refine k_put hC hK hP hD hS iX2 tyX2_ok nmX2 0 6 wf_X2_39 rfl (by decide) rfl rfl rfl rfl (Nat.le_of_ble_eq_true rfl) dX2_refuse_17 (fun H locs hP hD hS => ?_)
    have hP : va_P G cl [(a0, .inr (2, [.ref a1, .ref a2, .int v_rd_2, .int v_rd_3, .int v_rd_4, .int v_rd_5, .int b1, .int v_rd_7])), (a1, .inr (5, [.ref a3, .int v_tp_1, .int v_tp_2, .int v_tp_3, .int v_tp_4, .long w_tp_5, .int v_tp_6]))] H := hP
    have hD : va_D A [(a0, .inr (2, [.ref a1, .ref a2, .int v_rd_2, .int v_rd_3, .int v_rd_4, .int v_rd_5, .int b1, .int v_rd_7])), (a1, .inr (5, [.ref a3, .int v_tp_1, .int v_tp_2, .int v_tp_3, .int v_tp_4, .long w_tp_5, .int v_tp_6]))] := hD
    refine lv_aload_n hx hb dX2_refuse_20 rfl (lv_at hl 0 rfl) ?_
    refine lv_aload_n hx hb dX2_refuse_21 rfl (lv_at hl 0 rfl) ?_
    refine k_get hC hK hP iX2 0 0 wf_X2_12 rfl (by decide) rfl rfl dX2_refuse_22 ?_
    refine k_getN hC hN hK hP iX5 1 3 wf_X2_58 rfl (by decide) rfl rfl dX2_refuse_25 ?_
    refine k_put hC hK hP hD hS iX2 tyX2_ok nmX2 0 7 wf_X2_42 rfl (by decide) rfl rfl rfl rfl (Nat.le_of_ble_eq_true rfl) dX2_refuse_28 (fun H locs hP hD hS => ?_)
    have hP : va_P G cl [(a0, .inr (2, [.ref a1, .ref a2, .int v_rd_2, .int v_rd_3, .int v_rd_4, .int v_rd_5, .int b1, .int v_tp_3])), (a1, .inr (5, [.ref a3, .int v_tp_1, .int v_tp_2, .int v_tp_3, .int v_tp_4, .long w_tp_5, .int v_tp_6]))] H := hP
    have hD : va_D A [(a0, .inr (2, [.ref a1, .ref a2, .int v_rd_2, .int v_rd_3, .int v_rd_4, .int v_rd_5, .int b1, .int v_tp_3])), (a1, .inr (5, [.ref a3, .int v_tp_1, .int v_tp_2, .int v_tp_3, .int v_tp_4, .long w_tp_5, .int v_tp_6]))] := hD
    refine lv_iconst (v := 0) hx hb dX2_refuse_31 (by decide) ?_
    have l_l2 : (0 : Int32).toInt = 0 := rfl
    rw [← hQm]
    exact k_zret hC hr hlk hK hP hD hS (b1, v_tp_3) [0, 1] rfl (by decide +kernel) rfl ⟨rfl, trivial⟩ (Nat.le_of_ble_eq_true rfl) (Nat.le_of_ble_eq_true rfl) dX2_refuse_32
  · have dc1 : v_tp_4.toInt = 4 := (fa_eq _ _).mp c1; have lbc1_0 := i_lo v_tp_4; have ubc1_0 := i_hi v_tp_4
    refine lv_iconst (v := 1) hx hb dX2_refuse_12 (by decide) ?_
    refine lv_goto (tgt := 17) hx hb dX2_refuse_13 (by decide) ?_
    refine k_put hC hK hP hD hS iX2 tyX2_ok nmX2 0 6 wf_X2_39 rfl (by decide) rfl rfl rfl rfl (Nat.le_of_ble_eq_true rfl) dX2_refuse_17 (fun H locs hP hD hS => ?_)
    have hP : va_P G cl [(a0, .inr (2, [.ref a1, .ref a2, .int v_rd_2, .int v_rd_3, .int v_rd_4, .int v_rd_5, .int 1, .int v_rd_7])), (a1, .inr (5, [.ref a3, .int v_tp_1, .int v_tp_2, .int v_tp_3, .int v_tp_4, .long w_tp_5, .int v_tp_6]))] H := hP
    have hD : va_D A [(a0, .inr (2, [.ref a1, .ref a2, .int v_rd_2, .int v_rd_3, .int v_rd_4, .int v_rd_5, .int 1, .int v_rd_7])), (a1, .inr (5, [.ref a3, .int v_tp_1, .int v_tp_2, .int v_tp_3, .int v_tp_4, .long w_tp_5, .int v_tp_6]))] := hD
    refine lv_aload_n hx hb dX2_refuse_20 rfl (lv_at hl 0 rfl) ?_
    refine lv_aload_n hx hb dX2_refuse_21 rfl (lv_at hl 0 rfl) ?_
    refine k_get hC hK hP iX2 0 0 wf_X2_12 rfl (by decide) rfl rfl dX2_refuse_22 ?_
    refine k_getN hC hN hK hP iX5 1 3 wf_X2_58 rfl (by decide) rfl rfl dX2_refuse_25 ?_
    refine k_put hC hK hP hD hS iX2 tyX2_ok nmX2 0 7 wf_X2_42 rfl (by decide) rfl rfl rfl rfl (Nat.le_of_ble_eq_true rfl) dX2_refuse_28 (fun H locs hP hD hS => ?_)
    have hP : va_P G cl [(a0, .inr (2, [.ref a1, .ref a2, .int v_rd_2, .int v_rd_3, .int v_rd_4, .int v_rd_5, .int 1, .int v_tp_3])), (a1, .inr (5, [.ref a3, .int v_tp_1, .int v_tp_2, .int v_tp_3, .int v_tp_4, .long w_tp_5, .int v_tp_6]))] H := hP
    have hD : va_D A [(a0, .inr (2, [.ref a1, .ref a2, .int v_rd_2, .int v_rd_3, .int v_rd_4, .int v_rd_5, .int 1, .int v_tp_3])), (a1, .inr (5, [.ref a3, .int v_tp_1, .int v_tp_2, .int v_tp_3, .int v_tp_4, .long w_tp_5, .int v_tp_6]))] := hD
    refine lv_iconst (v := 0) hx hb dX2_refuse_31 (by decide) ?_
    have l_l3 : (1 : Int32).toInt = 1 := rfl
    have l_l4 : (0 : Int32).toInt = 0 := rfl
    rw [← hQm]
    exact k_zret hC hr hlk hK hP hD hS (1, v_tp_3) [0, 1] rfl (by decide +kernel) rfl ⟨rfl, trivial⟩ (Nat.le_of_ble_eq_true rfl) (Nat.le_of_ble_eq_true rfl) dX2_refuse_32
theorem dX2_takeNumber_0 : decode cX2_takeNumber 0 = .ok (.aload_n 0, 1) := by decide +kernel
theorem dX2_takeNumber_1 : decode cX2_takeNumber 1 = .ok (.getfield 12, 3) := by decide +kernel
theorem dX2_takeNumber_4 : decode cX2_takeNumber 4 = .ok (.getfield 51, 3) := by decide +kernel
theorem dX2_takeNumber_7 : decode cX2_takeNumber 7 = .ok (.iconst 2, 1) := by decide +kernel
theorem dX2_takeNumber_8 : decode cX2_takeNumber 8 = .ok (.if_icmp .eq 9, 3) := by decide +kernel
theorem dX2_takeNumber_17 : decode cX2_takeNumber 17 = .ok (.aload_n 0, 1) := by decide +kernel
theorem dX2_takeNumber_18 : decode cX2_takeNumber 18 = .ok (.getfield 12, 3) := by decide +kernel
theorem dX2_takeNumber_21 : decode cX2_takeNumber 21 = .ok (.getfield 146, 3) := by decide +kernel
set_option maxRecDepth 100000 in
theorem wf_X2_146 : Cond.fieldLinkNest RX2 146 "StoneTrust$Tape" "number" "I" "StoneTrust" ∈ nests := nm_ (List.mem_of_getElem? (i := 320) (by decide +kernel)) rfl
theorem dX2_takeNumber_24 : decode cX2_takeNumber 24 = .ok (.iload_n 1, 1) := by decide +kernel
theorem dX2_takeNumber_25 : decode cX2_takeNumber 25 = .ok (.if_icmp .lt 14, 3) := by decide +kernel
theorem dX2_takeNumber_39 : decode cX2_takeNumber 39 = .ok (.aload_n 0, 1) := by decide +kernel
theorem dX2_takeNumber_40 : decode cX2_takeNumber 40 = .ok (.iconst 4, 1) := by decide +kernel
theorem dX2_takeNumber_41 : decode cX2_takeNumber 41 = .ok (.invokevirtual 100, 3) := by decide +kernel
set_option maxRecDepth 100000 in
theorem wm_X2_100 : Cond.methodLink RX2 100 yX2_refuse ∈ gw := gm (List.mem_of_getElem? (i := 626) (by decide +kernel)) rfl
set_option maxRecDepth 100000 in
theorem mi_X2_refuse : MI yX2_refuse cX2_refuse 2 (some .boolean) 1 := ⟨gm (List.mem_of_getElem? (i := 629) rfl) rfl, gm (List.mem_of_getElem? (i := 118) (by decide +kernel)) rfl, by decide, by decide, by decide +kernel⟩
set_option maxRecDepth 100000 in
theorem in_X2_refuse : Cond.instanceMethod yX2_refuse ∈ gw := gm (List.mem_of_getElem? (i := 628) (by decide +kernel)) rfl
set_option maxRecDepth 100000 in
theorem se_X2_refuse : Cond.selects yX2_refuse.cls yX2_refuse yX2_refuse ∈ gw := gm (List.mem_of_getElem? (i := 5) (by decide +kernel)) rfl
theorem dX2_takeNumber_44 : decode cX2_takeNumber 44 = .ok (.ireturn, 1) := by decide +kernel
theorem dX2_takeNumber_28 : decode cX2_takeNumber 28 = .ok (.aload_n 0, 1) := by decide +kernel
theorem dX2_takeNumber_29 : decode cX2_takeNumber 29 = .ok (.getfield 12, 3) := by decide +kernel
theorem dX2_takeNumber_32 : decode cX2_takeNumber 32 = .ok (.getfield 146, 3) := by decide +kernel
theorem dX2_takeNumber_35 : decode cX2_takeNumber 35 = .ok (.iload_n 2, 1) := by decide +kernel
theorem dX2_takeNumber_36 : decode cX2_takeNumber 36 = .ok (.if_icmp .le 9, 3) := by decide +kernel
theorem dX2_takeNumber_45 : decode cX2_takeNumber 45 = .ok (.aload_n 0, 1) := by decide +kernel
theorem dX2_takeNumber_46 : decode cX2_takeNumber 46 = .ok (.aload_n 0, 1) := by decide +kernel
theorem dX2_takeNumber_47 : decode cX2_takeNumber 47 = .ok (.getfield 12, 3) := by decide +kernel
theorem dX2_takeNumber_50 : decode cX2_takeNumber 50 = .ok (.getfield 146, 3) := by decide +kernel
theorem dX2_takeNumber_53 : decode cX2_takeNumber 53 = .ok (.putfield 25, 3) := by decide +kernel
set_option maxRecDepth 100000 in
theorem wf_X2_25 : Cond.fieldLink RX2 25 "StoneTrust$Reader" "value" "I" ∈ gw := gm (List.mem_of_getElem? (i := 342) (by decide +kernel)) rfl
theorem dX2_takeNumber_56 : decode cX2_takeNumber 56 = .ok (.aload_n 0, 1) := by decide +kernel
theorem dX2_takeNumber_57 : decode cX2_takeNumber 57 = .ok (.getfield 12, 3) := by decide +kernel
theorem dX2_takeNumber_60 : decode cX2_takeNumber 60 = .ok (.invokevirtual 104, 3) := by decide +kernel
set_option maxRecDepth 100000 in
theorem wm_X2_104 : Cond.methodLink RX2 104 yX5_advance ∈ gw := gm (List.mem_of_getElem? (i := 630) (by decide +kernel)) rfl
theorem dX2_takeNumber_63 : decode cX2_takeNumber 63 = .ok (.iconst 1, 1) := by decide +kernel
theorem dX2_takeNumber_64 : decode cX2_takeNumber 64 = .ok (.ireturn, 1) := by decide +kernel
theorem dX2_takeNumber_11 : decode cX2_takeNumber 11 = .ok (.aload_n 0, 1) := by decide +kernel
theorem dX2_takeNumber_12 : decode cX2_takeNumber 12 = .ok (.iconst 2, 1) := by decide +kernel
theorem dX2_takeNumber_13 : decode cX2_takeNumber 13 = .ok (.invokevirtual 100, 3) := by decide +kernel
theorem dX2_takeNumber_16 : decode cX2_takeNumber 16 = .ok (.ireturn, 1) := by decide +kernel
set_option maxHeartbeats 4000000 in
set_option maxRecDepth 100000 in
theorem c48_X2_takeNumber (l : Launch) (G : va_G) (cI cJ cB cZ : ClassId) (a0 a1 a2 a3 : Nat) (v_rd_2 : Int32) (v_rd_3 : Int32) (v_rd_4 : Int32) (v_rd_5 : Int32) (v_rd_6 : Int32) (v_rd_7 : Int32) (v_tp_1 : Int32) (v_tp_2 : Int32) (v_tp_3 : Int32) (v_tp_4 : Int32) (w_tp_5 : Int64) (v_tp_6 : Int32) (g_tp_bytes : Nat → Int32) (hv_0 : 0 ≤ v_rd_3.toInt) (hv_1 : v_rd_3.toInt ≤ 1) (hv_2 : 0 ≤ v_rd_4.toInt) (hv_3 : v_rd_4.toInt ≤ 1) (hv_4 : 0 ≤ v_tp_1.toInt) (hv_5 : v_tp_1.toInt ≤ 1300) (hv_6 : 0 ≤ v_tp_2.toInt) (hv_7 : v_tp_2.toInt ≤ 1300) (hT_g_tp_bytes : TA (-128) 127 g_tp_bytes) : Con l G (TY cI cJ cB cZ) yX2_takeNumber cX2_takeNumber 3 (some .boolean) ({ frames := 3, cells := 0, slots := 0, locals := 61 } : Room) [.ref a0, .int 90, .int 110] [(a0, .inr (2, [.ref a1, .ref a2, .int v_rd_2, .int v_rd_3, .int v_rd_4, .int v_rd_5, .int v_rd_6, .int v_rd_7])), (a1, .inr (5, [.ref a3, .int v_tp_1, .int v_tp_2, .int v_tp_3, .int v_tp_4, .long w_tp_5, .int v_tp_6])), (a3, .inl (cB, 1300, .inl g_tp_bytes))] (QI G (TY cI cJ cB cZ) (fun (r : Int32) (u : Int32 × Int32 × Int32 × Int32 × Int32 × Int32 × Int64 × Int32) => (r = 0 ∧ (0 ≤ u.2.2.2.1.toInt ∧ u.2.2.2.1.toInt ≤ 1300)) ∨ (r = 1 ∧ (90 ≤ u.1.toInt ∧ u.1.toInt ≤ 110 ∧ 0 ≤ u.2.2.2.1.toInt ∧ u.2.2.2.1.toInt ≤ 1300 ∧ 0 ≤ u.2.2.2.2.1.toInt ∧ u.2.2.2.2.1.toInt ≤ 1300 ∧ 0 ≤ u.2.2.2.2.2.1.toInt ∧ u.2.2.2.2.2.1.toInt ≤ 4))) (fun u : Int32 × Int32 × Int32 × Int32 × Int32 × Int32 × Int64 × Int32 => [(a0, .inr (2, [.ref a1, .ref a2, .int u.1, .int v_rd_3, .int v_rd_4, .int v_rd_5, .int u.2.1, .int u.2.2.1])), (a1, .inr (5, [.ref a3, .int v_tp_1, .int u.2.2.2.1, .int u.2.2.2.2.1, .int u.2.2.2.2.2.1, .long u.2.2.2.2.2.2.1, .int u.2.2.2.2.2.2.2])), (a3, .inl (cB, 1300, .inl g_tp_bytes))])) := by
  refine k_met (by decide) (Nat.le_of_ble_eq_true rfl) ?_
  intro p e s m below meth c A ls hC hr hlk hnm hN hZ hK hA hP hD hS hl
  have hl : lv_has ls 3 [(0, .ref a0), (1, .int 90), (2, .int 110)] := hl
  generalize hQm : MQ below _ _ s _ _ A = Qm
  generalize (List.toArray _ : Array Value) = args at hC hQm ⊢
  obtain ⟨hx, hb, hml, hown, hts⟩ := id hC
  obtain ⟨H, hH⟩ : ∃ q, q = s.heap := ⟨_, rfl⟩
  obtain ⟨locs, hlo⟩ : ∃ q : List Loc, q = [] := ⟨_, rfl⟩
  have hP : va_P G cl [(a0, .inr (2, [.ref a1, .ref a2, .int v_rd_2, .int v_rd_3, .int v_rd_4, .int v_rd_5, .int v_rd_6, .int v_rd_7])), (a1, .inr (5, [.ref a3, .int v_tp_1, .int v_tp_2, .int v_tp_3, .int v_tp_4, .long w_tp_5, .int v_tp_6])), (a3, .inl (cB, 1300, .inl g_tp_bytes))] H := by rw [hH]; exact hP
  have hS : va_S A s.heap H locs := by rw [hH, hlo]; exact hS
  rw [← hlo]
  rw [← hH]
  refine lv_aload_n hx hb dX2_takeNumber_0 rfl (lv_at hl 0 rfl) ?_
  refine k_get hC hK hP iX2 0 0 wf_X2_12 rfl (by decide) rfl rfl dX2_takeNumber_1 ?_
  refine k_getN hC hN hK hP iX5 1 4 wf_X2_51 rfl (by decide) rfl rfl dX2_takeNumber_4 ?_
  refine lv_iconst (v := 2) hx hb dX2_takeNumber_7 (by decide) ?_
  refine lv_icmp_eq (tgt := 17) hx hb dX2_takeNumber_8 (by decide) (fun c1 => ?_) (fun c1 => ?_)
  · have dc1 : v_tp_4.toInt = 2 := (fa_eq _ _).mp c1; have lbc1_0 := i_lo v_tp_4; have ubc1_0 := i_hi v_tp_4
    refine lv_aload_n hx hb dX2_takeNumber_17 rfl (lv_at hl 0 rfl) ?_
    refine k_get hC hK hP iX2 0 0 wf_X2_12 rfl (by decide) rfl rfl dX2_takeNumber_18 ?_
    refine k_getN hC hN hK hP iX5 1 6 wf_X2_146 rfl (by decide) rfl rfl dX2_takeNumber_21 ?_
    refine lv_iload_n hx hb dX2_takeNumber_24 rfl (lv_at hl 1 rfl) ?_
    refine lv_icmp_lt (tgt := 39) hx hb dX2_takeNumber_25 (by decide) (fun c2 => ?_) (fun c2 => ?_)
    · have dc2 : v_tp_6.toInt < 90 := (fa_lt _ _).mp c2; have lbc2_0 := i_lo v_tp_6; have ubc2_0 := i_hi v_tp_6
      refine lv_aload_n hx hb dX2_takeNumber_39 rfl (lv_at hl 0 rfl) ?_
      refine lv_iconst (v := 4) hx hb dX2_takeNumber_40 (by decide) ?_
      have l_l4 : (4 : Int32).toInt = 4 := rfl
      refine k_ci (wr := [(a3, .inl (cB, 1300, .inl g_tp_bytes))]) (k_rV hC hN hZ hS hA hK hP hD (c47_X2_refuse l G cI cJ cB cZ a0 a1 a2 a3 4 v_rd_2 v_rd_3 v_rd_4 v_rd_5 v_rd_6 v_rd_7 v_tp_1 v_tp_2 v_tp_3 v_tp_4 w_tp_5 v_tp_6 hv_0 hv_1 hv_2 hv_3 hv_4 hv_5 hv_6 hv_7) [0, 1] rfl (by decide +kernel) mi_X2_refuse in_X2_refuse se_X2_refuse wm_X2_100 2 0 rfl rfl rfl hl.1 rfl rfl (Nat.le_of_ble_eq_true rfl) ⟨(Nat.le_of_ble_eq_true rfl), (Nat.le_of_ble_eq_true rfl)⟩ dX2_takeNumber_41 ⟨(Nat.le_of_ble_eq_true rfl), (Nat.le_of_ble_eq_true rfl)⟩) hP hD hS hA [0, 1] [2] rfl rfl (by decide +kernel) (by decide +kernel) (fun r3 u3 H locs hp hP hD hS => ?_)
      obtain ⟨h5, h6⟩ := u3
      have hp : (r3 = 0 ∧ True) := hp
      obtain rfl : r3 = 0 := hp.1
      have hP : va_P G cl [(a3, .inl (cB, 1300, .inl g_tp_bytes)), (a0, .inr (2, [.ref a1, .ref a2, .int v_rd_2, .int v_rd_3, .int v_rd_4, .int v_rd_5, .int h5, .int h6])), (a1, .inr (5, [.ref a3, .int v_tp_1, .int v_tp_2, .int v_tp_3, .int v_tp_4, .long w_tp_5, .int v_tp_6]))] H := hP
      have hD : va_D A [(a3, .inl (cB, 1300, .inl g_tp_bytes)), (a0, .inr (2, [.ref a1, .ref a2, .int v_rd_2, .int v_rd_3, .int v_rd_4, .int v_rd_5, .int h5, .int h6])), (a1, .inr (5, [.ref a3, .int v_tp_1, .int v_tp_2, .int v_tp_3, .int v_tp_4, .long w_tp_5, .int v_tp_6]))] := hD
      have hq3 := hp
      have l_l7 : (0 : Int32).toInt = 0 := rfl
      rw [← hQm]
      exact k_zret hC hr hlk hK hP hD hS (v_rd_2, h5, h6, v_tp_2, v_tp_3, v_tp_4, w_tp_5, v_tp_6) [1, 2, 0] rfl (by decide +kernel) rfl (Or.inl ⟨rfl, (show 0 ≤ v_tp_2.toInt ∧ v_tp_2.toInt ≤ 1300 from by omega)⟩) (Nat.le_of_ble_eq_true rfl) (Nat.le_of_ble_eq_true rfl) dX2_takeNumber_44
    · have dc2 : 90 ≤ v_tp_6.toInt := fa_nlt c2; have lbc2_0 := i_lo v_tp_6; have ubc2_0 := i_hi v_tp_6
      refine lv_aload_n hx hb dX2_takeNumber_28 rfl (lv_at hl 0 rfl) ?_
      refine k_get hC hK hP iX2 0 0 wf_X2_12 rfl (by decide) rfl rfl dX2_takeNumber_29 ?_
      refine k_getN hC hN hK hP iX5 1 6 wf_X2_146 rfl (by decide) rfl rfl dX2_takeNumber_32 ?_
      refine lv_iload_n hx hb dX2_takeNumber_35 rfl (lv_at hl 2 rfl) ?_
      refine lv_icmp_le (tgt := 45) hx hb dX2_takeNumber_36 (by decide) (fun c8 => ?_) (fun c8 => ?_)
      · have dc8 : v_tp_6.toInt ≤ 110 := (fa_le _ _).mp c8; have ubc8_0 := i_hi v_tp_6
        refine lv_aload_n hx hb dX2_takeNumber_45 rfl (lv_at hl 0 rfl) ?_
        refine lv_aload_n hx hb dX2_takeNumber_46 rfl (lv_at hl 0 rfl) ?_
        refine k_get hC hK hP iX2 0 0 wf_X2_12 rfl (by decide) rfl rfl dX2_takeNumber_47 ?_
        refine k_getN hC hN hK hP iX5 1 6 wf_X2_146 rfl (by decide) rfl rfl dX2_takeNumber_50 ?_
        refine k_put hC hK hP hD hS iX2 tyX2_ok nmX2 0 2 wf_X2_25 rfl (by decide) rfl rfl rfl rfl (Nat.le_of_ble_eq_true rfl) dX2_takeNumber_53 (fun H locs hP hD hS => ?_)
        have hP : va_P G cl [(a0, .inr (2, [.ref a1, .ref a2, .int v_tp_6, .int v_rd_3, .int v_rd_4, .int v_rd_5, .int v_rd_6, .int v_rd_7])), (a1, .inr (5, [.ref a3, .int v_tp_1, .int v_tp_2, .int v_tp_3, .int v_tp_4, .long w_tp_5, .int v_tp_6])), (a3, .inl (cB, 1300, .inl g_tp_bytes))] H := hP
        have hD : va_D A [(a0, .inr (2, [.ref a1, .ref a2, .int v_tp_6, .int v_rd_3, .int v_rd_4, .int v_rd_5, .int v_rd_6, .int v_rd_7])), (a1, .inr (5, [.ref a3, .int v_tp_1, .int v_tp_2, .int v_tp_3, .int v_tp_4, .long w_tp_5, .int v_tp_6])), (a3, .inl (cB, 1300, .inl g_tp_bytes))] := hD
        refine lv_aload_n hx hb dX2_takeNumber_56 rfl (lv_at hl 0 rfl) ?_
        refine k_get hC hK hP iX2 0 0 wf_X2_12 rfl (by decide) rfl rfl dX2_takeNumber_57 ?_
        refine k_cv (wr := [(a0, .inr (2, [.ref a1, .ref a2, .int v_tp_6, .int v_rd_3, .int v_rd_4, .int v_rd_5, .int v_rd_6, .int v_rd_7]))]) (k_rV hC hN hZ hS hA hK hP hD (c20_X5_advance l G cI cJ cB cZ a1 a3 v_tp_1 v_tp_2 v_tp_3 v_tp_4 w_tp_5 v_tp_6 g_tp_bytes hv_4 hv_5 hv_6 hv_7 hT_g_tp_bytes) [1, 2] rfl (by decide +kernel) mi_X5_advance in_X5_advance se_X5_advance wm_X2_104 5 1 rfl rfl rfl hl.1 rfl rfl (Nat.le_of_ble_eq_true rfl) ⟨(Nat.le_of_ble_eq_true rfl), (Nat.le_of_ble_eq_true rfl)⟩ dX2_takeNumber_60 ⟨(Nat.le_of_ble_eq_true rfl), (Nat.le_of_ble_eq_true rfl)⟩) hP hD hS hA [1, 2] [0] rfl rfl (by decide +kernel) (by decide +kernel) (fun u9 H locs hp hP hD hS => ?_)
        obtain ⟨h10, h11, h12, y13, h14⟩ := u9
        have hp : (0 ≤ h10.toInt ∧ h10.toInt ≤ 1300 ∧ 0 ≤ h11.toInt ∧ h11.toInt ≤ 1300 ∧ 0 ≤ h12.toInt ∧ h12.toInt ≤ 4) := hp
        have hP : va_P G cl [(a0, .inr (2, [.ref a1, .ref a2, .int v_tp_6, .int v_rd_3, .int v_rd_4, .int v_rd_5, .int v_rd_6, .int v_rd_7])), (a1, .inr (5, [.ref a3, .int v_tp_1, .int h10, .int h11, .int h12, .long y13, .int h14])), (a3, .inl (cB, 1300, .inl g_tp_bytes))] H := hP
        have hD : va_D A [(a0, .inr (2, [.ref a1, .ref a2, .int v_tp_6, .int v_rd_3, .int v_rd_4, .int v_rd_5, .int v_rd_6, .int v_rd_7])), (a1, .inr (5, [.ref a3, .int v_tp_1, .int h10, .int h11, .int h12, .long y13, .int h14])), (a3, .inl (cB, 1300, .inl g_tp_bytes))] := hD
        have hq9 := hp
        refine lv_iconst (v := 1) hx hb dX2_takeNumber_63 (by decide) ?_
        have l_l15 : (1 : Int32).toInt = 1 := rfl
        rw [← hQm]
        exact k_zret hC hr hlk hK hP hD hS (v_tp_6, v_rd_6, v_rd_7, h10, h11, h12, y13, h14) [0, 1, 2] rfl (by decide +kernel) rfl (Or.inr ⟨rfl, (show 90 ≤ v_tp_6.toInt ∧ v_tp_6.toInt ≤ 110 ∧ 0 ≤ h10.toInt ∧ h10.toInt ≤ 1300 ∧ 0 ≤ h11.toInt ∧ h11.toInt ≤ 1300 ∧ 0 ≤ h12.toInt ∧ h12.toInt ≤ 4 from by omega)⟩) (Nat.le_of_ble_eq_true rfl) (Nat.le_of_ble_eq_true rfl) dX2_takeNumber_64
      · have dc8 : 110 < v_tp_6.toInt := fa_nle c8; have ubc8_0 := i_hi v_tp_6
        refine lv_aload_n hx hb dX2_takeNumber_39 rfl (lv_at hl 0 rfl) ?_
        refine lv_iconst (v := 4) hx hb dX2_takeNumber_40 (by decide) ?_
        have l_l17 : (4 : Int32).toInt = 4 := rfl
        refine k_ci (wr := [(a3, .inl (cB, 1300, .inl g_tp_bytes))]) (k_rV hC hN hZ hS hA hK hP hD (c47_X2_refuse l G cI cJ cB cZ a0 a1 a2 a3 4 v_rd_2 v_rd_3 v_rd_4 v_rd_5 v_rd_6 v_rd_7 v_tp_1 v_tp_2 v_tp_3 v_tp_4 w_tp_5 v_tp_6 hv_0 hv_1 hv_2 hv_3 hv_4 hv_5 hv_6 hv_7) [0, 1] rfl (by decide +kernel) mi_X2_refuse in_X2_refuse se_X2_refuse wm_X2_100 2 0 rfl rfl rfl hl.1 rfl rfl (Nat.le_of_ble_eq_true rfl) ⟨(Nat.le_of_ble_eq_true rfl), (Nat.le_of_ble_eq_true rfl)⟩ dX2_takeNumber_41 ⟨(Nat.le_of_ble_eq_true rfl), (Nat.le_of_ble_eq_true rfl)⟩) hP hD hS hA [0, 1] [2] rfl rfl (by decide +kernel) (by decide +kernel) (fun r16 u16 H locs hp hP hD hS => ?_)
        obtain ⟨h18, h19⟩ := u16
        have hp : (r16 = 0 ∧ True) := hp
        obtain rfl : r16 = 0 := hp.1
        have hP : va_P G cl [(a3, .inl (cB, 1300, .inl g_tp_bytes)), (a0, .inr (2, [.ref a1, .ref a2, .int v_rd_2, .int v_rd_3, .int v_rd_4, .int v_rd_5, .int h18, .int h19])), (a1, .inr (5, [.ref a3, .int v_tp_1, .int v_tp_2, .int v_tp_3, .int v_tp_4, .long w_tp_5, .int v_tp_6]))] H := hP
        have hD : va_D A [(a3, .inl (cB, 1300, .inl g_tp_bytes)), (a0, .inr (2, [.ref a1, .ref a2, .int v_rd_2, .int v_rd_3, .int v_rd_4, .int v_rd_5, .int h18, .int h19])), (a1, .inr (5, [.ref a3, .int v_tp_1, .int v_tp_2, .int v_tp_3, .int v_tp_4, .long w_tp_5, .int v_tp_6]))] := hD
        have hq16 := hp
        have l_l20 : (0 : Int32).toInt = 0 := rfl
        rw [← hQm]
        exact k_zret hC hr hlk hK hP hD hS (v_rd_2, h18, h19, v_tp_2, v_tp_3, v_tp_4, w_tp_5, v_tp_6) [1, 2, 0] rfl (by decide +kernel) rfl (Or.inl ⟨rfl, (show 0 ≤ v_tp_2.toInt ∧ v_tp_2.toInt ≤ 1300 from by omega)⟩) (Nat.le_of_ble_eq_true rfl) (Nat.le_of_ble_eq_true rfl) dX2_takeNumber_44
  · have dc1 : v_tp_4.toInt ≠ 2 := fa_ne c1; have lbc1_0 := i_lo v_tp_4; have ubc1_0 := i_hi v_tp_4
    refine lv_aload_n hx hb dX2_takeNumber_11 rfl (lv_at hl 0 rfl) ?_
    refine lv_iconst (v := 2) hx hb dX2_takeNumber_12 (by decide) ?_
    have l_l22 : (2 : Int32).toInt = 2 := rfl
    refine k_ci (wr := [(a3, .inl (cB, 1300, .inl g_tp_bytes))]) (k_rV hC hN hZ hS hA hK hP hD (c47_X2_refuse l G cI cJ cB cZ a0 a1 a2 a3 2 v_rd_2 v_rd_3 v_rd_4 v_rd_5 v_rd_6 v_rd_7 v_tp_1 v_tp_2 v_tp_3 v_tp_4 w_tp_5 v_tp_6 hv_0 hv_1 hv_2 hv_3 hv_4 hv_5 hv_6 hv_7) [0, 1] rfl (by decide +kernel) mi_X2_refuse in_X2_refuse se_X2_refuse wm_X2_100 2 0 rfl rfl rfl hl.1 rfl rfl (Nat.le_of_ble_eq_true rfl) ⟨(Nat.le_of_ble_eq_true rfl), (Nat.le_of_ble_eq_true rfl)⟩ dX2_takeNumber_13 ⟨(Nat.le_of_ble_eq_true rfl), (Nat.le_of_ble_eq_true rfl)⟩) hP hD hS hA [0, 1] [2] rfl rfl (by decide +kernel) (by decide +kernel) (fun r21 u21 H locs hp hP hD hS => ?_)
    obtain ⟨h23, h24⟩ := u21
    have hp : (r21 = 0 ∧ True) := hp
    obtain rfl : r21 = 0 := hp.1
    have hP : va_P G cl [(a3, .inl (cB, 1300, .inl g_tp_bytes)), (a0, .inr (2, [.ref a1, .ref a2, .int v_rd_2, .int v_rd_3, .int v_rd_4, .int v_rd_5, .int h23, .int h24])), (a1, .inr (5, [.ref a3, .int v_tp_1, .int v_tp_2, .int v_tp_3, .int v_tp_4, .long w_tp_5, .int v_tp_6]))] H := hP
    have hD : va_D A [(a3, .inl (cB, 1300, .inl g_tp_bytes)), (a0, .inr (2, [.ref a1, .ref a2, .int v_rd_2, .int v_rd_3, .int v_rd_4, .int v_rd_5, .int h23, .int h24])), (a1, .inr (5, [.ref a3, .int v_tp_1, .int v_tp_2, .int v_tp_3, .int v_tp_4, .long w_tp_5, .int v_tp_6]))] := hD
    have hq21 := hp
    have l_l25 : (0 : Int32).toInt = 0 := rfl
    rw [← hQm]
    exact k_zret hC hr hlk hK hP hD hS (v_rd_2, h23, h24, v_tp_2, v_tp_3, v_tp_4, w_tp_5, v_tp_6) [1, 2, 0] rfl (by decide +kernel) rfl (Or.inl ⟨rfl, (show 0 ≤ v_tp_2.toInt ∧ v_tp_2.toInt ≤ 1300 from by omega)⟩) (Nat.le_of_ble_eq_true rfl) (Nat.le_of_ble_eq_true rfl) dX2_takeNumber_16
theorem dX2_takeWord_0 : decode cX2_takeWord 0 = .ok (.aload_n 0, 1) := by decide +kernel
theorem dX2_takeWord_1 : decode cX2_takeWord 1 = .ok (.getfield 12, 3) := by decide +kernel
theorem dX2_takeWord_4 : decode cX2_takeWord 4 = .ok (.lload_n 1, 1) := by decide +kernel
theorem dX2_takeWord_5 : decode cX2_takeWord 5 = .ok (.invokevirtual 63, 3) := by decide +kernel
set_option maxRecDepth 100000 in
theorem wm_X2_63 : Cond.methodLink RX2 63 yX5_isWord ∈ gw := gm (List.mem_of_getElem? (i := 618) (by decide +kernel)) rfl
set_option maxRecDepth 100000 in
theorem mi_X5_isWord : MI yX5_isWord cX5_isWord 3 (some .boolean) 1 := ⟨gm (List.mem_of_getElem? (i := 621) rfl) rfl, gm (List.mem_of_getElem? (i := 119) (by decide +kernel)) rfl, by decide, by decide, by decide +kernel⟩
set_option maxRecDepth 100000 in
theorem in_X5_isWord : Cond.instanceMethod yX5_isWord ∈ gw := gm (List.mem_of_getElem? (i := 619) (by decide +kernel)) rfl
set_option maxRecDepth 100000 in
theorem se_X5_isWord : Cond.selects yX5_isWord.cls yX5_isWord yX5_isWord ∈ gw := gm (List.mem_of_getElem? (i := 620) (by decide +kernel)) rfl
theorem dX2_takeWord_8 : decode cX2_takeWord 8 = .ok (.ifCond .ne 9, 3) := by decide +kernel
theorem dX2_takeWord_17 : decode cX2_takeWord 17 = .ok (.aload_n 0, 1) := by decide +kernel
theorem dX2_takeWord_18 : decode cX2_takeWord 18 = .ok (.getfield 12, 3) := by decide +kernel
theorem dX2_takeWord_21 : decode cX2_takeWord 21 = .ok (.invokevirtual 104, 3) := by decide +kernel
theorem dX2_takeWord_24 : decode cX2_takeWord 24 = .ok (.iconst 1, 1) := by decide +kernel
theorem dX2_takeWord_25 : decode cX2_takeWord 25 = .ok (.ireturn, 1) := by decide +kernel
theorem dX2_takeWord_11 : decode cX2_takeWord 11 = .ok (.aload_n 0, 1) := by decide +kernel
theorem dX2_takeWord_12 : decode cX2_takeWord 12 = .ok (.iconst 2, 1) := by decide +kernel
theorem dX2_takeWord_13 : decode cX2_takeWord 13 = .ok (.invokevirtual 100, 3) := by decide +kernel
theorem dX2_takeWord_16 : decode cX2_takeWord 16 = .ok (.ireturn, 1) := by decide +kernel
set_option maxHeartbeats 4000000 in
set_option maxRecDepth 100000 in
theorem c49_X2_takeWord (l : Launch) (G : va_G) (cI cJ cB cZ : ClassId) (a0 a1 a2 a3 : Nat) (b1 : Int64) (v_rd_2 : Int32) (v_rd_3 : Int32) (v_rd_4 : Int32) (v_rd_5 : Int32) (v_rd_6 : Int32) (v_rd_7 : Int32) (v_tp_1 : Int32) (v_tp_2 : Int32) (v_tp_3 : Int32) (v_tp_4 : Int32) (w_tp_5 : Int64) (v_tp_6 : Int32) (g_tp_bytes : Nat → Int32) (hv_0 : 0 ≤ v_rd_3.toInt) (hv_1 : v_rd_3.toInt ≤ 1) (hv_2 : 0 ≤ v_rd_4.toInt) (hv_3 : v_rd_4.toInt ≤ 1) (hv_4 : 0 ≤ v_tp_1.toInt) (hv_5 : v_tp_1.toInt ≤ 1300) (hv_6 : 0 ≤ v_tp_2.toInt) (hv_7 : v_tp_2.toInt ≤ 1300) (hT_g_tp_bytes : TA (-128) 127 g_tp_bytes) : Con l G (TY cI cJ cB cZ) yX2_takeWord cX2_takeWord 3 (some .boolean) ({ frames := 3, cells := 0, slots := 0, locals := 61 } : Room) [.ref a0, .long b1] [(a0, .inr (2, [.ref a1, .ref a2, .int v_rd_2, .int v_rd_3, .int v_rd_4, .int v_rd_5, .int v_rd_6, .int v_rd_7])), (a1, .inr (5, [.ref a3, .int v_tp_1, .int v_tp_2, .int v_tp_3, .int v_tp_4, .long w_tp_5, .int v_tp_6])), (a3, .inl (cB, 1300, .inl g_tp_bytes))] (QI G (TY cI cJ cB cZ) (fun (r : Int32) (u : Int32 × Int32 × Int32 × Int32 × Int32 × Int64 × Int32) => (0 ≤ r.toInt ∧ r.toInt ≤ 1 ∧ 0 ≤ u.2.2.1.toInt ∧ u.2.2.1.toInt ≤ 1300)) (fun u : Int32 × Int32 × Int32 × Int32 × Int32 × Int64 × Int32 => [(a0, .inr (2, [.ref a1, .ref a2, .int v_rd_2, .int v_rd_3, .int v_rd_4, .int v_rd_5, .int u.1, .int u.2.1])), (a1, .inr (5, [.ref a3, .int v_tp_1, .int u.2.2.1, .int u.2.2.2.1, .int u.2.2.2.2.1, .long u.2.2.2.2.2.1, .int u.2.2.2.2.2.2])), (a3, .inl (cB, 1300, .inl g_tp_bytes))])) := by
  refine k_met (by decide) (Nat.le_of_ble_eq_true rfl) ?_
  intro p e s m below meth c A ls hC hr hlk hnm hN hZ hK hA hP hD hS hl
  have hl : lv_has ls 3 [(0, .ref a0), (1, .long b1)] := hl
  generalize hQm : MQ below _ _ s _ _ A = Qm
  generalize (List.toArray _ : Array Value) = args at hC hQm ⊢
  obtain ⟨hx, hb, hml, hown, hts⟩ := id hC
  obtain ⟨H, hH⟩ : ∃ q, q = s.heap := ⟨_, rfl⟩
  obtain ⟨locs, hlo⟩ : ∃ q : List Loc, q = [] := ⟨_, rfl⟩
  have hP : va_P G cl [(a0, .inr (2, [.ref a1, .ref a2, .int v_rd_2, .int v_rd_3, .int v_rd_4, .int v_rd_5, .int v_rd_6, .int v_rd_7])), (a1, .inr (5, [.ref a3, .int v_tp_1, .int v_tp_2, .int v_tp_3, .int v_tp_4, .long w_tp_5, .int v_tp_6])), (a3, .inl (cB, 1300, .inl g_tp_bytes))] H := by rw [hH]; exact hP
  have hS : va_S A s.heap H locs := by rw [hH, hlo]; exact hS
  rw [← hlo]
  rw [← hH]
  refine lv_aload_n hx hb dX2_takeWord_0 rfl (lv_at hl 0 rfl) ?_
  refine k_get hC hK hP iX2 0 0 wf_X2_12 rfl (by decide) rfl rfl dX2_takeWord_1 ?_
  refine lv_lload_n hx hb dX2_takeWord_4 rfl (lv_at hl 1 rfl) ?_
  refine k_ci (wr := [(a0, .inr (2, [.ref a1, .ref a2, .int v_rd_2, .int v_rd_3, .int v_rd_4, .int v_rd_5, .int v_rd_6, .int v_rd_7])), (a3, .inl (cB, 1300, .inl g_tp_bytes))]) (k_rV hC hN hZ hS hA hK hP hD (c21_X5_isWord l G cI cJ cB cZ a1 a3 b1 v_tp_1 v_tp_2 v_tp_3 v_tp_4 w_tp_5 v_tp_6 hv_4 hv_5 hv_6 hv_7) [1] rfl (by decide +kernel) mi_X5_isWord in_X5_isWord se_X5_isWord wm_X2_63 5 1 rfl rfl rfl hl.1 rfl rfl (Nat.le_of_ble_eq_true rfl) ⟨(Nat.le_of_ble_eq_true rfl), (Nat.le_of_ble_eq_true rfl)⟩ dX2_takeWord_5 ⟨(Nat.le_of_ble_eq_true rfl), (Nat.le_of_ble_eq_true rfl)⟩) hP hD hS hA [1] [0, 2] rfl rfl (by decide +kernel) (by decide +kernel) (fun r1 u1 H locs hp hP hD hS => ?_)
  have hp : (0 ≤ r1.toInt ∧ r1.toInt ≤ 1) := hp
  have hP : va_P G cl [(a0, .inr (2, [.ref a1, .ref a2, .int v_rd_2, .int v_rd_3, .int v_rd_4, .int v_rd_5, .int v_rd_6, .int v_rd_7])), (a3, .inl (cB, 1300, .inl g_tp_bytes)), (a1, .inr (5, [.ref a3, .int v_tp_1, .int v_tp_2, .int v_tp_3, .int v_tp_4, .long w_tp_5, .int v_tp_6]))] H := hP
  have hD : va_D A [(a0, .inr (2, [.ref a1, .ref a2, .int v_rd_2, .int v_rd_3, .int v_rd_4, .int v_rd_5, .int v_rd_6, .int v_rd_7])), (a3, .inl (cB, 1300, .inl g_tp_bytes)), (a1, .inr (5, [.ref a3, .int v_tp_1, .int v_tp_2, .int v_tp_3, .int v_tp_4, .long w_tp_5, .int v_tp_6]))] := hD
  have hq1 := hp
  refine lv_if_ne (tgt := 17) hx hb dX2_takeWord_8 (by decide) (fun c2 => ?_) (fun c2 => ?_)
  · have dc2 : r1.toInt ≠ 0 := fa_ne c2
    refine lv_aload_n hx hb dX2_takeWord_17 rfl (lv_at hl 0 rfl) ?_
    refine k_get hC hK hP iX2 0 0 wf_X2_12 rfl (by decide) rfl rfl dX2_takeWord_18 ?_
    refine k_cv (wr := [(a0, .inr (2, [.ref a1, .ref a2, .int v_rd_2, .int v_rd_3, .int v_rd_4, .int v_rd_5, .int v_rd_6, .int v_rd_7]))]) (k_rV hC hN hZ hS hA hK hP hD (c20_X5_advance l G cI cJ cB cZ a1 a3 v_tp_1 v_tp_2 v_tp_3 v_tp_4 w_tp_5 v_tp_6 g_tp_bytes hv_4 hv_5 hv_6 hv_7 hT_g_tp_bytes) [2, 1] rfl (by decide +kernel) mi_X5_advance in_X5_advance se_X5_advance wm_X2_104 5 2 rfl rfl rfl hl.1 rfl rfl (Nat.le_of_ble_eq_true rfl) ⟨(Nat.le_of_ble_eq_true rfl), (Nat.le_of_ble_eq_true rfl)⟩ dX2_takeWord_21 ⟨(Nat.le_of_ble_eq_true rfl), (Nat.le_of_ble_eq_true rfl)⟩) hP hD hS hA [2, 1] [0] rfl rfl (by decide +kernel) (by decide +kernel) (fun u3 H locs hp hP hD hS => ?_)
    obtain ⟨h4, h5, h6, y7, h8⟩ := u3
    have hp : (0 ≤ h4.toInt ∧ h4.toInt ≤ 1300 ∧ 0 ≤ h5.toInt ∧ h5.toInt ≤ 1300 ∧ 0 ≤ h6.toInt ∧ h6.toInt ≤ 4) := hp
    have hP : va_P G cl [(a0, .inr (2, [.ref a1, .ref a2, .int v_rd_2, .int v_rd_3, .int v_rd_4, .int v_rd_5, .int v_rd_6, .int v_rd_7])), (a1, .inr (5, [.ref a3, .int v_tp_1, .int h4, .int h5, .int h6, .long y7, .int h8])), (a3, .inl (cB, 1300, .inl g_tp_bytes))] H := hP
    have hD : va_D A [(a0, .inr (2, [.ref a1, .ref a2, .int v_rd_2, .int v_rd_3, .int v_rd_4, .int v_rd_5, .int v_rd_6, .int v_rd_7])), (a1, .inr (5, [.ref a3, .int v_tp_1, .int h4, .int h5, .int h6, .long y7, .int h8])), (a3, .inl (cB, 1300, .inl g_tp_bytes))] := hD
    have hq3 := hp
    refine lv_iconst (v := 1) hx hb dX2_takeWord_24 (by decide) ?_
    have l_l9 : (1 : Int32).toInt = 1 := rfl
    rw [← hQm]
    exact k_zret hC hr hlk hK hP hD hS (v_rd_6, v_rd_7, h4, h5, h6, y7, h8) [0, 1, 2] rfl (by decide +kernel) rfl (show 0 ≤ (1 : Int32).toInt ∧ (1 : Int32).toInt ≤ 1 ∧ 0 ≤ h4.toInt ∧ h4.toInt ≤ 1300 from by omega) (Nat.le_of_ble_eq_true rfl) (Nat.le_of_ble_eq_true rfl) dX2_takeWord_25
  · have dc2 : r1.toInt = 0 := (fa_eq _ _).mp c2
    refine lv_aload_n hx hb dX2_takeWord_11 rfl (lv_at hl 0 rfl) ?_
    refine lv_iconst (v := 2) hx hb dX2_takeWord_12 (by decide) ?_
    have l_l11 : (2 : Int32).toInt = 2 := rfl
    refine k_ci (wr := [(a3, .inl (cB, 1300, .inl g_tp_bytes))]) (k_rV hC hN hZ hS hA hK hP hD (c47_X2_refuse l G cI cJ cB cZ a0 a1 a2 a3 2 v_rd_2 v_rd_3 v_rd_4 v_rd_5 v_rd_6 v_rd_7 v_tp_1 v_tp_2 v_tp_3 v_tp_4 w_tp_5 v_tp_6 hv_0 hv_1 hv_2 hv_3 hv_4 hv_5 hv_6 hv_7) [0, 2] rfl (by decide +kernel) mi_X2_refuse in_X2_refuse se_X2_refuse wm_X2_100 2 0 rfl rfl rfl hl.1 rfl rfl (Nat.le_of_ble_eq_true rfl) ⟨(Nat.le_of_ble_eq_true rfl), (Nat.le_of_ble_eq_true rfl)⟩ dX2_takeWord_13 ⟨(Nat.le_of_ble_eq_true rfl), (Nat.le_of_ble_eq_true rfl)⟩) hP hD hS hA [0, 2] [1] rfl rfl (by decide +kernel) (by decide +kernel) (fun r10 u10 H locs hp hP hD hS => ?_)
    obtain ⟨h12, h13⟩ := u10
    have hp : (r10 = 0 ∧ True) := hp
    obtain rfl : r10 = 0 := hp.1
    have hP : va_P G cl [(a3, .inl (cB, 1300, .inl g_tp_bytes)), (a0, .inr (2, [.ref a1, .ref a2, .int v_rd_2, .int v_rd_3, .int v_rd_4, .int v_rd_5, .int h12, .int h13])), (a1, .inr (5, [.ref a3, .int v_tp_1, .int v_tp_2, .int v_tp_3, .int v_tp_4, .long w_tp_5, .int v_tp_6]))] H := hP
    have hD : va_D A [(a3, .inl (cB, 1300, .inl g_tp_bytes)), (a0, .inr (2, [.ref a1, .ref a2, .int v_rd_2, .int v_rd_3, .int v_rd_4, .int v_rd_5, .int h12, .int h13])), (a1, .inr (5, [.ref a3, .int v_tp_1, .int v_tp_2, .int v_tp_3, .int v_tp_4, .long w_tp_5, .int v_tp_6]))] := hD
    have hq10 := hp
    have l_l14 : (0 : Int32).toInt = 0 := rfl
    rw [← hQm]
    exact k_zret hC hr hlk hK hP hD hS (h12, h13, v_tp_2, v_tp_3, v_tp_4, w_tp_5, v_tp_6) [1, 2, 0] rfl (by decide +kernel) rfl (show 0 ≤ (0 : Int32).toInt ∧ (0 : Int32).toInt ≤ 1 ∧ 0 ≤ v_tp_2.toInt ∧ v_tp_2.toInt ≤ 1300 from by omega) (Nat.le_of_ble_eq_true rfl) (Nat.le_of_ble_eq_true rfl) dX2_takeWord_16
set_option maxHeartbeats 4000000 in
set_option maxRecDepth 100000 in
theorem c50_X2_takeNumber (l : Launch) (G : va_G) (cI cJ cB cZ : ClassId) (a0 a1 a2 a3 : Nat) (b1 : Int32) (b2 : Int32) (v_rd_2 : Int32) (v_rd_3 : Int32) (v_rd_4 : Int32) (v_rd_5 : Int32) (v_rd_6 : Int32) (v_rd_7 : Int32) (v_tp_1 : Int32) (v_tp_2 : Int32) (v_tp_3 : Int32) (v_tp_4 : Int32) (w_tp_5 : Int64) (v_tp_6 : Int32) (g_tp_bytes : Nat → Int32) (hv_0 : 90 ≤ b1.toInt) (hv_1 : b1.toInt ≤ 110) (hv_2 : 96 ≤ b2.toInt) (hv_3 : b2.toInt ≤ 110) (hv_4 : 0 ≤ v_rd_3.toInt) (hv_5 : v_rd_3.toInt ≤ 1) (hv_6 : 0 ≤ v_rd_4.toInt) (hv_7 : v_rd_4.toInt ≤ 1) (hv_8 : 0 ≤ v_tp_1.toInt) (hv_9 : v_tp_1.toInt ≤ 1300) (hv_10 : 0 ≤ v_tp_2.toInt) (hv_11 : v_tp_2.toInt ≤ 1300) (hT_g_tp_bytes : TA (-128) 127 g_tp_bytes) : Con l G (TY cI cJ cB cZ) yX2_takeNumber cX2_takeNumber 3 (some .boolean) ({ frames := 3, cells := 0, slots := 0, locals := 61 } : Room) [.ref a0, .int b1, .int b2] [(a0, .inr (2, [.ref a1, .ref a2, .int v_rd_2, .int v_rd_3, .int v_rd_4, .int v_rd_5, .int v_rd_6, .int v_rd_7])), (a1, .inr (5, [.ref a3, .int v_tp_1, .int v_tp_2, .int v_tp_3, .int v_tp_4, .long w_tp_5, .int v_tp_6])), (a3, .inl (cB, 1300, .inl g_tp_bytes))] (QI G (TY cI cJ cB cZ) (fun (r : Int32) (u : Int32 × Int32 × Int32 × Int32 × Int32 × Int32 × Int64 × Int32) => (r = 0 ∧ (0 ≤ u.2.2.2.1.toInt ∧ u.2.2.2.1.toInt ≤ 1300)) ∨ (r = 1 ∧ (90 ≤ u.1.toInt ∧ u.1.toInt ≤ 110 ∧ 0 ≤ u.2.2.2.1.toInt ∧ u.2.2.2.1.toInt ≤ 1300 ∧ 0 ≤ u.2.2.2.2.1.toInt ∧ u.2.2.2.2.1.toInt ≤ 1300 ∧ 0 ≤ u.2.2.2.2.2.1.toInt ∧ u.2.2.2.2.2.1.toInt ≤ 4))) (fun u : Int32 × Int32 × Int32 × Int32 × Int32 × Int32 × Int64 × Int32 => [(a0, .inr (2, [.ref a1, .ref a2, .int u.1, .int v_rd_3, .int v_rd_4, .int v_rd_5, .int u.2.1, .int u.2.2.1])), (a1, .inr (5, [.ref a3, .int v_tp_1, .int u.2.2.2.1, .int u.2.2.2.2.1, .int u.2.2.2.2.2.1, .long u.2.2.2.2.2.2.1, .int u.2.2.2.2.2.2.2])), (a3, .inl (cB, 1300, .inl g_tp_bytes))])) := by
  refine k_met (by decide) (Nat.le_of_ble_eq_true rfl) ?_
  intro p e s m below meth c A ls hC hr hlk hnm hN hZ hK hA hP hD hS hl
  have hl : lv_has ls 3 [(0, .ref a0), (1, .int b1), (2, .int b2)] := hl
  generalize hQm : MQ below _ _ s _ _ A = Qm
  generalize (List.toArray _ : Array Value) = args at hC hQm ⊢
  obtain ⟨hx, hb, hml, hown, hts⟩ := id hC
  obtain ⟨H, hH⟩ : ∃ q, q = s.heap := ⟨_, rfl⟩
  obtain ⟨locs, hlo⟩ : ∃ q : List Loc, q = [] := ⟨_, rfl⟩
  have hP : va_P G cl [(a0, .inr (2, [.ref a1, .ref a2, .int v_rd_2, .int v_rd_3, .int v_rd_4, .int v_rd_5, .int v_rd_6, .int v_rd_7])), (a1, .inr (5, [.ref a3, .int v_tp_1, .int v_tp_2, .int v_tp_3, .int v_tp_4, .long w_tp_5, .int v_tp_6])), (a3, .inl (cB, 1300, .inl g_tp_bytes))] H := by rw [hH]; exact hP
  have hS : va_S A s.heap H locs := by rw [hH, hlo]; exact hS
  rw [← hlo]
  rw [← hH]
  refine lv_aload_n hx hb dX2_takeNumber_0 rfl (lv_at hl 0 rfl) ?_
  refine k_get hC hK hP iX2 0 0 wf_X2_12 rfl (by decide) rfl rfl dX2_takeNumber_1 ?_
  refine k_getN hC hN hK hP iX5 1 4 wf_X2_51 rfl (by decide) rfl rfl dX2_takeNumber_4 ?_
  refine lv_iconst (v := 2) hx hb dX2_takeNumber_7 (by decide) ?_
  refine lv_icmp_eq (tgt := 17) hx hb dX2_takeNumber_8 (by decide) (fun c1 => ?_) (fun c1 => ?_)
  · have dc1 : v_tp_4.toInt = 2 := (fa_eq _ _).mp c1; have lbc1_0 := i_lo v_tp_4; have ubc1_0 := i_hi v_tp_4
    refine lv_aload_n hx hb dX2_takeNumber_17 rfl (lv_at hl 0 rfl) ?_
    refine k_get hC hK hP iX2 0 0 wf_X2_12 rfl (by decide) rfl rfl dX2_takeNumber_18 ?_
    refine k_getN hC hN hK hP iX5 1 6 wf_X2_146 rfl (by decide) rfl rfl dX2_takeNumber_21 ?_
    refine lv_iload_n hx hb dX2_takeNumber_24 rfl (lv_at hl 1 rfl) ?_
    refine lv_icmp_lt (tgt := 39) hx hb dX2_takeNumber_25 (by decide) (fun c2 => ?_) (fun c2 => ?_)
    · have dc2 : v_tp_6.toInt < b1.toInt := (fa_lt _ _).mp c2; have lbc2_0 := i_lo v_tp_6; have ubc2_0 := i_hi v_tp_6
      refine lv_aload_n hx hb dX2_takeNumber_39 rfl (lv_at hl 0 rfl) ?_
      refine lv_iconst (v := 4) hx hb dX2_takeNumber_40 (by decide) ?_
      have l_l4 : (4 : Int32).toInt = 4 := rfl
      refine k_ci (wr := [(a3, .inl (cB, 1300, .inl g_tp_bytes))]) (k_rV hC hN hZ hS hA hK hP hD (c47_X2_refuse l G cI cJ cB cZ a0 a1 a2 a3 4 v_rd_2 v_rd_3 v_rd_4 v_rd_5 v_rd_6 v_rd_7 v_tp_1 v_tp_2 v_tp_3 v_tp_4 w_tp_5 v_tp_6 hv_4 hv_5 hv_6 hv_7 hv_8 hv_9 hv_10 hv_11) [0, 1] rfl (by decide +kernel) mi_X2_refuse in_X2_refuse se_X2_refuse wm_X2_100 2 0 rfl rfl rfl hl.1 rfl rfl (Nat.le_of_ble_eq_true rfl) ⟨(Nat.le_of_ble_eq_true rfl), (Nat.le_of_ble_eq_true rfl)⟩ dX2_takeNumber_41 ⟨(Nat.le_of_ble_eq_true rfl), (Nat.le_of_ble_eq_true rfl)⟩) hP hD hS hA [0, 1] [2] rfl rfl (by decide +kernel) (by decide +kernel) (fun r3 u3 H locs hp hP hD hS => ?_)
      obtain ⟨h5, h6⟩ := u3
      have hp : (r3 = 0 ∧ True) := hp
      obtain rfl : r3 = 0 := hp.1
      have hP : va_P G cl [(a3, .inl (cB, 1300, .inl g_tp_bytes)), (a0, .inr (2, [.ref a1, .ref a2, .int v_rd_2, .int v_rd_3, .int v_rd_4, .int v_rd_5, .int h5, .int h6])), (a1, .inr (5, [.ref a3, .int v_tp_1, .int v_tp_2, .int v_tp_3, .int v_tp_4, .long w_tp_5, .int v_tp_6]))] H := hP
      have hD : va_D A [(a3, .inl (cB, 1300, .inl g_tp_bytes)), (a0, .inr (2, [.ref a1, .ref a2, .int v_rd_2, .int v_rd_3, .int v_rd_4, .int v_rd_5, .int h5, .int h6])), (a1, .inr (5, [.ref a3, .int v_tp_1, .int v_tp_2, .int v_tp_3, .int v_tp_4, .long w_tp_5, .int v_tp_6]))] := hD
      have hq3 := hp
      have l_l7 : (0 : Int32).toInt = 0 := rfl
      rw [← hQm]
      exact k_zret hC hr hlk hK hP hD hS (v_rd_2, h5, h6, v_tp_2, v_tp_3, v_tp_4, w_tp_5, v_tp_6) [1, 2, 0] rfl (by decide +kernel) rfl (Or.inl ⟨rfl, (show 0 ≤ v_tp_2.toInt ∧ v_tp_2.toInt ≤ 1300 from by omega)⟩) (Nat.le_of_ble_eq_true rfl) (Nat.le_of_ble_eq_true rfl) dX2_takeNumber_44
    · have dc2 : b1.toInt ≤ v_tp_6.toInt := fa_nlt c2; have lbc2_0 := i_lo v_tp_6; have ubc2_0 := i_hi v_tp_6
      refine lv_aload_n hx hb dX2_takeNumber_28 rfl (lv_at hl 0 rfl) ?_
      refine k_get hC hK hP iX2 0 0 wf_X2_12 rfl (by decide) rfl rfl dX2_takeNumber_29 ?_
      refine k_getN hC hN hK hP iX5 1 6 wf_X2_146 rfl (by decide) rfl rfl dX2_takeNumber_32 ?_
      refine lv_iload_n hx hb dX2_takeNumber_35 rfl (lv_at hl 2 rfl) ?_
      refine lv_icmp_le (tgt := 45) hx hb dX2_takeNumber_36 (by decide) (fun c8 => ?_) (fun c8 => ?_)
      · have dc8 : v_tp_6.toInt ≤ b2.toInt := (fa_le _ _).mp c8; have ubc8_0 := i_hi v_tp_6
        refine lv_aload_n hx hb dX2_takeNumber_45 rfl (lv_at hl 0 rfl) ?_
        refine lv_aload_n hx hb dX2_takeNumber_46 rfl (lv_at hl 0 rfl) ?_
        refine k_get hC hK hP iX2 0 0 wf_X2_12 rfl (by decide) rfl rfl dX2_takeNumber_47 ?_
        refine k_getN hC hN hK hP iX5 1 6 wf_X2_146 rfl (by decide) rfl rfl dX2_takeNumber_50 ?_
        refine k_put hC hK hP hD hS iX2 tyX2_ok nmX2 0 2 wf_X2_25 rfl (by decide) rfl rfl rfl rfl (Nat.le_of_ble_eq_true rfl) dX2_takeNumber_53 (fun H locs hP hD hS => ?_)
        have hP : va_P G cl [(a0, .inr (2, [.ref a1, .ref a2, .int v_tp_6, .int v_rd_3, .int v_rd_4, .int v_rd_5, .int v_rd_6, .int v_rd_7])), (a1, .inr (5, [.ref a3, .int v_tp_1, .int v_tp_2, .int v_tp_3, .int v_tp_4, .long w_tp_5, .int v_tp_6])), (a3, .inl (cB, 1300, .inl g_tp_bytes))] H := hP
        have hD : va_D A [(a0, .inr (2, [.ref a1, .ref a2, .int v_tp_6, .int v_rd_3, .int v_rd_4, .int v_rd_5, .int v_rd_6, .int v_rd_7])), (a1, .inr (5, [.ref a3, .int v_tp_1, .int v_tp_2, .int v_tp_3, .int v_tp_4, .long w_tp_5, .int v_tp_6])), (a3, .inl (cB, 1300, .inl g_tp_bytes))] := hD
        refine lv_aload_n hx hb dX2_takeNumber_56 rfl (lv_at hl 0 rfl) ?_
        refine k_get hC hK hP iX2 0 0 wf_X2_12 rfl (by decide) rfl rfl dX2_takeNumber_57 ?_
        refine k_cv (wr := [(a0, .inr (2, [.ref a1, .ref a2, .int v_tp_6, .int v_rd_3, .int v_rd_4, .int v_rd_5, .int v_rd_6, .int v_rd_7]))]) (k_rV hC hN hZ hS hA hK hP hD (c20_X5_advance l G cI cJ cB cZ a1 a3 v_tp_1 v_tp_2 v_tp_3 v_tp_4 w_tp_5 v_tp_6 g_tp_bytes hv_8 hv_9 hv_10 hv_11 hT_g_tp_bytes) [1, 2] rfl (by decide +kernel) mi_X5_advance in_X5_advance se_X5_advance wm_X2_104 5 1 rfl rfl rfl hl.1 rfl rfl (Nat.le_of_ble_eq_true rfl) ⟨(Nat.le_of_ble_eq_true rfl), (Nat.le_of_ble_eq_true rfl)⟩ dX2_takeNumber_60 ⟨(Nat.le_of_ble_eq_true rfl), (Nat.le_of_ble_eq_true rfl)⟩) hP hD hS hA [1, 2] [0] rfl rfl (by decide +kernel) (by decide +kernel) (fun u9 H locs hp hP hD hS => ?_)
        obtain ⟨h10, h11, h12, y13, h14⟩ := u9
        have hp : (0 ≤ h10.toInt ∧ h10.toInt ≤ 1300 ∧ 0 ≤ h11.toInt ∧ h11.toInt ≤ 1300 ∧ 0 ≤ h12.toInt ∧ h12.toInt ≤ 4) := hp
        have hP : va_P G cl [(a0, .inr (2, [.ref a1, .ref a2, .int v_tp_6, .int v_rd_3, .int v_rd_4, .int v_rd_5, .int v_rd_6, .int v_rd_7])), (a1, .inr (5, [.ref a3, .int v_tp_1, .int h10, .int h11, .int h12, .long y13, .int h14])), (a3, .inl (cB, 1300, .inl g_tp_bytes))] H := hP
        have hD : va_D A [(a0, .inr (2, [.ref a1, .ref a2, .int v_tp_6, .int v_rd_3, .int v_rd_4, .int v_rd_5, .int v_rd_6, .int v_rd_7])), (a1, .inr (5, [.ref a3, .int v_tp_1, .int h10, .int h11, .int h12, .long y13, .int h14])), (a3, .inl (cB, 1300, .inl g_tp_bytes))] := hD
        have hq9 := hp
        refine lv_iconst (v := 1) hx hb dX2_takeNumber_63 (by decide) ?_
        have l_l15 : (1 : Int32).toInt = 1 := rfl
        rw [← hQm]
        exact k_zret hC hr hlk hK hP hD hS (v_tp_6, v_rd_6, v_rd_7, h10, h11, h12, y13, h14) [0, 1, 2] rfl (by decide +kernel) rfl (Or.inr ⟨rfl, (show 90 ≤ v_tp_6.toInt ∧ v_tp_6.toInt ≤ 110 ∧ 0 ≤ h10.toInt ∧ h10.toInt ≤ 1300 ∧ 0 ≤ h11.toInt ∧ h11.toInt ≤ 1300 ∧ 0 ≤ h12.toInt ∧ h12.toInt ≤ 4 from by omega)⟩) (Nat.le_of_ble_eq_true rfl) (Nat.le_of_ble_eq_true rfl) dX2_takeNumber_64
      · have dc8 : b2.toInt < v_tp_6.toInt := fa_nle c8; have ubc8_0 := i_hi v_tp_6
        refine lv_aload_n hx hb dX2_takeNumber_39 rfl (lv_at hl 0 rfl) ?_
        refine lv_iconst (v := 4) hx hb dX2_takeNumber_40 (by decide) ?_
        have l_l17 : (4 : Int32).toInt = 4 := rfl
        refine k_ci (wr := [(a3, .inl (cB, 1300, .inl g_tp_bytes))]) (k_rV hC hN hZ hS hA hK hP hD (c47_X2_refuse l G cI cJ cB cZ a0 a1 a2 a3 4 v_rd_2 v_rd_3 v_rd_4 v_rd_5 v_rd_6 v_rd_7 v_tp_1 v_tp_2 v_tp_3 v_tp_4 w_tp_5 v_tp_6 hv_4 hv_5 hv_6 hv_7 hv_8 hv_9 hv_10 hv_11) [0, 1] rfl (by decide +kernel) mi_X2_refuse in_X2_refuse se_X2_refuse wm_X2_100 2 0 rfl rfl rfl hl.1 rfl rfl (Nat.le_of_ble_eq_true rfl) ⟨(Nat.le_of_ble_eq_true rfl), (Nat.le_of_ble_eq_true rfl)⟩ dX2_takeNumber_41 ⟨(Nat.le_of_ble_eq_true rfl), (Nat.le_of_ble_eq_true rfl)⟩) hP hD hS hA [0, 1] [2] rfl rfl (by decide +kernel) (by decide +kernel) (fun r16 u16 H locs hp hP hD hS => ?_)
        obtain ⟨h18, h19⟩ := u16
        have hp : (r16 = 0 ∧ True) := hp
        obtain rfl : r16 = 0 := hp.1
        have hP : va_P G cl [(a3, .inl (cB, 1300, .inl g_tp_bytes)), (a0, .inr (2, [.ref a1, .ref a2, .int v_rd_2, .int v_rd_3, .int v_rd_4, .int v_rd_5, .int h18, .int h19])), (a1, .inr (5, [.ref a3, .int v_tp_1, .int v_tp_2, .int v_tp_3, .int v_tp_4, .long w_tp_5, .int v_tp_6]))] H := hP
        have hD : va_D A [(a3, .inl (cB, 1300, .inl g_tp_bytes)), (a0, .inr (2, [.ref a1, .ref a2, .int v_rd_2, .int v_rd_3, .int v_rd_4, .int v_rd_5, .int h18, .int h19])), (a1, .inr (5, [.ref a3, .int v_tp_1, .int v_tp_2, .int v_tp_3, .int v_tp_4, .long w_tp_5, .int v_tp_6]))] := hD
        have hq16 := hp
        have l_l20 : (0 : Int32).toInt = 0 := rfl
        rw [← hQm]
        exact k_zret hC hr hlk hK hP hD hS (v_rd_2, h18, h19, v_tp_2, v_tp_3, v_tp_4, w_tp_5, v_tp_6) [1, 2, 0] rfl (by decide +kernel) rfl (Or.inl ⟨rfl, (show 0 ≤ v_tp_2.toInt ∧ v_tp_2.toInt ≤ 1300 from by omega)⟩) (Nat.le_of_ble_eq_true rfl) (Nat.le_of_ble_eq_true rfl) dX2_takeNumber_44
  · have dc1 : v_tp_4.toInt ≠ 2 := fa_ne c1; have lbc1_0 := i_lo v_tp_4; have ubc1_0 := i_hi v_tp_4
    refine lv_aload_n hx hb dX2_takeNumber_11 rfl (lv_at hl 0 rfl) ?_
    refine lv_iconst (v := 2) hx hb dX2_takeNumber_12 (by decide) ?_
    have l_l22 : (2 : Int32).toInt = 2 := rfl
    refine k_ci (wr := [(a3, .inl (cB, 1300, .inl g_tp_bytes))]) (k_rV hC hN hZ hS hA hK hP hD (c47_X2_refuse l G cI cJ cB cZ a0 a1 a2 a3 2 v_rd_2 v_rd_3 v_rd_4 v_rd_5 v_rd_6 v_rd_7 v_tp_1 v_tp_2 v_tp_3 v_tp_4 w_tp_5 v_tp_6 hv_4 hv_5 hv_6 hv_7 hv_8 hv_9 hv_10 hv_11) [0, 1] rfl (by decide +kernel) mi_X2_refuse in_X2_refuse se_X2_refuse wm_X2_100 2 0 rfl rfl rfl hl.1 rfl rfl (Nat.le_of_ble_eq_true rfl) ⟨(Nat.le_of_ble_eq_true rfl), (Nat.le_of_ble_eq_true rfl)⟩ dX2_takeNumber_13 ⟨(Nat.le_of_ble_eq_true rfl), (Nat.le_of_ble_eq_true rfl)⟩) hP hD hS hA [0, 1] [2] rfl rfl (by decide +kernel) (by decide +kernel) (fun r21 u21 H locs hp hP hD hS => ?_)
    obtain ⟨h23, h24⟩ := u21
    have hp : (r21 = 0 ∧ True) := hp
    obtain rfl : r21 = 0 := hp.1
    have hP : va_P G cl [(a3, .inl (cB, 1300, .inl g_tp_bytes)), (a0, .inr (2, [.ref a1, .ref a2, .int v_rd_2, .int v_rd_3, .int v_rd_4, .int v_rd_5, .int h23, .int h24])), (a1, .inr (5, [.ref a3, .int v_tp_1, .int v_tp_2, .int v_tp_3, .int v_tp_4, .long w_tp_5, .int v_tp_6]))] H := hP
    have hD : va_D A [(a3, .inl (cB, 1300, .inl g_tp_bytes)), (a0, .inr (2, [.ref a1, .ref a2, .int v_rd_2, .int v_rd_3, .int v_rd_4, .int v_rd_5, .int h23, .int h24])), (a1, .inr (5, [.ref a3, .int v_tp_1, .int v_tp_2, .int v_tp_3, .int v_tp_4, .long w_tp_5, .int v_tp_6]))] := hD
    have hq21 := hp
    have l_l25 : (0 : Int32).toInt = 0 := rfl
    rw [← hQm]
    exact k_zret hC hr hlk hK hP hD hS (v_rd_2, h23, h24, v_tp_2, v_tp_3, v_tp_4, w_tp_5, v_tp_6) [1, 2, 0] rfl (by decide +kernel) rfl (Or.inl ⟨rfl, (show 0 ≤ v_tp_2.toInt ∧ v_tp_2.toInt ≤ 1300 from by omega)⟩) (Nat.le_of_ble_eq_true rfl) (Nat.le_of_ble_eq_true rfl) dX2_takeNumber_16
theorem dX2_takeSign_0 : decode cX2_takeSign 0 = .ok (.aload_n 0, 1) := by decide +kernel
theorem dX2_takeSign_1 : decode cX2_takeSign 1 = .ok (.getfield 12, 3) := by decide +kernel
theorem dX2_takeSign_4 : decode cX2_takeSign 4 = .ok (.getfield 51, 3) := by decide +kernel
theorem dX2_takeSign_7 : decode cX2_takeSign 7 = .ok (.iconst 3, 1) := by decide +kernel
theorem dX2_takeSign_8 : decode cX2_takeSign 8 = .ok (.if_icmp .eq 9, 3) := by decide +kernel
theorem dX2_takeSign_17 : decode cX2_takeSign 17 = .ok (.aload_n 0, 1) := by decide +kernel
theorem dX2_takeSign_18 : decode cX2_takeSign 18 = .ok (.getfield 12, 3) := by decide +kernel
theorem dX2_takeSign_21 : decode cX2_takeSign 21 = .ok (.invokevirtual 104, 3) := by decide +kernel
theorem dX2_takeSign_24 : decode cX2_takeSign 24 = .ok (.iconst 1, 1) := by decide +kernel
theorem dX2_takeSign_25 : decode cX2_takeSign 25 = .ok (.ireturn, 1) := by decide +kernel
theorem dX2_takeSign_11 : decode cX2_takeSign 11 = .ok (.aload_n 0, 1) := by decide +kernel
theorem dX2_takeSign_12 : decode cX2_takeSign 12 = .ok (.iconst 2, 1) := by decide +kernel
theorem dX2_takeSign_13 : decode cX2_takeSign 13 = .ok (.invokevirtual 100, 3) := by decide +kernel
theorem dX2_takeSign_16 : decode cX2_takeSign 16 = .ok (.ireturn, 1) := by decide +kernel
set_option maxHeartbeats 4000000 in
set_option maxRecDepth 100000 in
theorem c51_X2_takeSign (l : Launch) (G : va_G) (cI cJ cB cZ : ClassId) (a0 a1 a2 a3 : Nat) (v_rd_2 : Int32) (v_rd_3 : Int32) (v_rd_4 : Int32) (v_rd_5 : Int32) (v_rd_6 : Int32) (v_rd_7 : Int32) (v_tp_1 : Int32) (v_tp_2 : Int32) (v_tp_3 : Int32) (v_tp_4 : Int32) (w_tp_5 : Int64) (v_tp_6 : Int32) (g_tp_bytes : Nat → Int32) (hv_0 : 0 ≤ v_rd_3.toInt) (hv_1 : v_rd_3.toInt ≤ 1) (hv_2 : 0 ≤ v_rd_4.toInt) (hv_3 : v_rd_4.toInt ≤ 1) (hv_4 : 0 ≤ v_tp_1.toInt) (hv_5 : v_tp_1.toInt ≤ 1300) (hv_6 : 0 ≤ v_tp_2.toInt) (hv_7 : v_tp_2.toInt ≤ 1300) (hT_g_tp_bytes : TA (-128) 127 g_tp_bytes) : Con l G (TY cI cJ cB cZ) yX2_takeSign cX2_takeSign 1 (some .boolean) ({ frames := 3, cells := 0, slots := 0, locals := 61 } : Room) [.ref a0] [(a0, .inr (2, [.ref a1, .ref a2, .int v_rd_2, .int v_rd_3, .int v_rd_4, .int v_rd_5, .int v_rd_6, .int v_rd_7])), (a1, .inr (5, [.ref a3, .int v_tp_1, .int v_tp_2, .int v_tp_3, .int v_tp_4, .long w_tp_5, .int v_tp_6])), (a3, .inl (cB, 1300, .inl g_tp_bytes))] (QI G (TY cI cJ cB cZ) (fun (r : Int32) (u : Int32 × Int32 × Int32 × Int32 × Int32 × Int64 × Int32) => (0 ≤ r.toInt ∧ r.toInt ≤ 1 ∧ 0 ≤ u.2.2.1.toInt ∧ u.2.2.1.toInt ≤ 1300)) (fun u : Int32 × Int32 × Int32 × Int32 × Int32 × Int64 × Int32 => [(a0, .inr (2, [.ref a1, .ref a2, .int v_rd_2, .int v_rd_3, .int v_rd_4, .int v_rd_5, .int u.1, .int u.2.1])), (a1, .inr (5, [.ref a3, .int v_tp_1, .int u.2.2.1, .int u.2.2.2.1, .int u.2.2.2.2.1, .long u.2.2.2.2.2.1, .int u.2.2.2.2.2.2])), (a3, .inl (cB, 1300, .inl g_tp_bytes))])) := by
  refine k_met (by decide) (Nat.le_of_ble_eq_true rfl) ?_
  intro p e s m below meth c A ls hC hr hlk hnm hN hZ hK hA hP hD hS hl
  have hl : lv_has ls 1 [(0, .ref a0)] := hl
  generalize hQm : MQ below _ _ s _ _ A = Qm
  generalize (List.toArray _ : Array Value) = args at hC hQm ⊢
  obtain ⟨hx, hb, hml, hown, hts⟩ := id hC
  obtain ⟨H, hH⟩ : ∃ q, q = s.heap := ⟨_, rfl⟩
  obtain ⟨locs, hlo⟩ : ∃ q : List Loc, q = [] := ⟨_, rfl⟩
  have hP : va_P G cl [(a0, .inr (2, [.ref a1, .ref a2, .int v_rd_2, .int v_rd_3, .int v_rd_4, .int v_rd_5, .int v_rd_6, .int v_rd_7])), (a1, .inr (5, [.ref a3, .int v_tp_1, .int v_tp_2, .int v_tp_3, .int v_tp_4, .long w_tp_5, .int v_tp_6])), (a3, .inl (cB, 1300, .inl g_tp_bytes))] H := by rw [hH]; exact hP
  have hS : va_S A s.heap H locs := by rw [hH, hlo]; exact hS
  rw [← hlo]
  rw [← hH]
  refine lv_aload_n hx hb dX2_takeSign_0 rfl (lv_at hl 0 rfl) ?_
  refine k_get hC hK hP iX2 0 0 wf_X2_12 rfl (by decide) rfl rfl dX2_takeSign_1 ?_
  refine k_getN hC hN hK hP iX5 1 4 wf_X2_51 rfl (by decide) rfl rfl dX2_takeSign_4 ?_
  refine lv_iconst (v := 3) hx hb dX2_takeSign_7 (by decide) ?_
  refine lv_icmp_eq (tgt := 17) hx hb dX2_takeSign_8 (by decide) (fun c1 => ?_) (fun c1 => ?_)
  · have dc1 : v_tp_4.toInt = 3 := (fa_eq _ _).mp c1; have lbc1_0 := i_lo v_tp_4; have ubc1_0 := i_hi v_tp_4
    refine lv_aload_n hx hb dX2_takeSign_17 rfl (lv_at hl 0 rfl) ?_
    refine k_get hC hK hP iX2 0 0 wf_X2_12 rfl (by decide) rfl rfl dX2_takeSign_18 ?_
    refine k_cv (wr := [(a0, .inr (2, [.ref a1, .ref a2, .int v_rd_2, .int v_rd_3, .int v_rd_4, .int v_rd_5, .int v_rd_6, .int v_rd_7]))]) (k_rV hC hN hZ hS hA hK hP hD (c20_X5_advance l G cI cJ cB cZ a1 a3 v_tp_1 v_tp_2 v_tp_3 v_tp_4 w_tp_5 v_tp_6 g_tp_bytes hv_4 hv_5 hv_6 hv_7 hT_g_tp_bytes) [1, 2] rfl (by decide +kernel) mi_X5_advance in_X5_advance se_X5_advance wm_X2_104 5 1 rfl rfl rfl hl.1 rfl rfl (Nat.le_of_ble_eq_true rfl) ⟨(Nat.le_of_ble_eq_true rfl), (Nat.le_of_ble_eq_true rfl)⟩ dX2_takeSign_21 ⟨(Nat.le_of_ble_eq_true rfl), (Nat.le_of_ble_eq_true rfl)⟩) hP hD hS hA [1, 2] [0] rfl rfl (by decide +kernel) (by decide +kernel) (fun u2 H locs hp hP hD hS => ?_)
    obtain ⟨h3, h4, h5, y6, h7⟩ := u2
    have hp : (0 ≤ h3.toInt ∧ h3.toInt ≤ 1300 ∧ 0 ≤ h4.toInt ∧ h4.toInt ≤ 1300 ∧ 0 ≤ h5.toInt ∧ h5.toInt ≤ 4) := hp
    have hP : va_P G cl [(a0, .inr (2, [.ref a1, .ref a2, .int v_rd_2, .int v_rd_3, .int v_rd_4, .int v_rd_5, .int v_rd_6, .int v_rd_7])), (a1, .inr (5, [.ref a3, .int v_tp_1, .int h3, .int h4, .int h5, .long y6, .int h7])), (a3, .inl (cB, 1300, .inl g_tp_bytes))] H := hP
    have hD : va_D A [(a0, .inr (2, [.ref a1, .ref a2, .int v_rd_2, .int v_rd_3, .int v_rd_4, .int v_rd_5, .int v_rd_6, .int v_rd_7])), (a1, .inr (5, [.ref a3, .int v_tp_1, .int h3, .int h4, .int h5, .long y6, .int h7])), (a3, .inl (cB, 1300, .inl g_tp_bytes))] := hD
    have hq2 := hp
    refine lv_iconst (v := 1) hx hb dX2_takeSign_24 (by decide) ?_
    have l_l8 : (1 : Int32).toInt = 1 := rfl
    rw [← hQm]
    exact k_zret hC hr hlk hK hP hD hS (v_rd_6, v_rd_7, h3, h4, h5, y6, h7) [0, 1, 2] rfl (by decide +kernel) rfl (show 0 ≤ (1 : Int32).toInt ∧ (1 : Int32).toInt ≤ 1 ∧ 0 ≤ h3.toInt ∧ h3.toInt ≤ 1300 from by omega) (Nat.le_of_ble_eq_true rfl) (Nat.le_of_ble_eq_true rfl) dX2_takeSign_25
  · have dc1 : v_tp_4.toInt ≠ 3 := fa_ne c1; have lbc1_0 := i_lo v_tp_4; have ubc1_0 := i_hi v_tp_4
    refine lv_aload_n hx hb dX2_takeSign_11 rfl (lv_at hl 0 rfl) ?_
    refine lv_iconst (v := 2) hx hb dX2_takeSign_12 (by decide) ?_
    have l_l10 : (2 : Int32).toInt = 2 := rfl
    refine k_ci (wr := [(a3, .inl (cB, 1300, .inl g_tp_bytes))]) (k_rV hC hN hZ hS hA hK hP hD (c47_X2_refuse l G cI cJ cB cZ a0 a1 a2 a3 2 v_rd_2 v_rd_3 v_rd_4 v_rd_5 v_rd_6 v_rd_7 v_tp_1 v_tp_2 v_tp_3 v_tp_4 w_tp_5 v_tp_6 hv_0 hv_1 hv_2 hv_3 hv_4 hv_5 hv_6 hv_7) [0, 1] rfl (by decide +kernel) mi_X2_refuse in_X2_refuse se_X2_refuse wm_X2_100 2 0 rfl rfl rfl hl.1 rfl rfl (Nat.le_of_ble_eq_true rfl) ⟨(Nat.le_of_ble_eq_true rfl), (Nat.le_of_ble_eq_true rfl)⟩ dX2_takeSign_13 ⟨(Nat.le_of_ble_eq_true rfl), (Nat.le_of_ble_eq_true rfl)⟩) hP hD hS hA [0, 1] [2] rfl rfl (by decide +kernel) (by decide +kernel) (fun r9 u9 H locs hp hP hD hS => ?_)
    obtain ⟨h11, h12⟩ := u9
    have hp : (r9 = 0 ∧ True) := hp
    obtain rfl : r9 = 0 := hp.1
    have hP : va_P G cl [(a3, .inl (cB, 1300, .inl g_tp_bytes)), (a0, .inr (2, [.ref a1, .ref a2, .int v_rd_2, .int v_rd_3, .int v_rd_4, .int v_rd_5, .int h11, .int h12])), (a1, .inr (5, [.ref a3, .int v_tp_1, .int v_tp_2, .int v_tp_3, .int v_tp_4, .long w_tp_5, .int v_tp_6]))] H := hP
    have hD : va_D A [(a3, .inl (cB, 1300, .inl g_tp_bytes)), (a0, .inr (2, [.ref a1, .ref a2, .int v_rd_2, .int v_rd_3, .int v_rd_4, .int v_rd_5, .int h11, .int h12])), (a1, .inr (5, [.ref a3, .int v_tp_1, .int v_tp_2, .int v_tp_3, .int v_tp_4, .long w_tp_5, .int v_tp_6]))] := hD
    have hq9 := hp
    have l_l13 : (0 : Int32).toInt = 0 := rfl
    rw [← hQm]
    exact k_zret hC hr hlk hK hP hD hS (h11, h12, v_tp_2, v_tp_3, v_tp_4, w_tp_5, v_tp_6) [1, 2, 0] rfl (by decide +kernel) rfl (show 0 ≤ (0 : Int32).toInt ∧ (0 : Int32).toInt ≤ 1 ∧ 0 ≤ v_tp_2.toInt ∧ v_tp_2.toInt ≤ 1300 from by omega) (Nat.le_of_ble_eq_true rfl) (Nat.le_of_ble_eq_true rfl) dX2_takeSign_16
theorem dX2_readArms_0 : decode cX2_readArms 0 = .ok (.aload_n 0, 1) := by decide +kernel
theorem dX2_readArms_1 : decode cX2_readArms 1 = .ok (.getfield 29, 3) := by decide +kernel
set_option maxRecDepth 100000 in
theorem wf_X2_29 : Cond.fieldLink RX2 29 "StoneTrust$Reader" "armsTold" "Z" ∈ gw := gm (List.mem_of_getElem? (i := 343) (by decide +kernel)) rfl
theorem dX2_readArms_4 : decode cX2_readArms 4 = .ok (.ifCond .eq 9, 3) := by decide +kernel
theorem dX2_readArms_13 : decode cX2_readArms 13 = .ok (.aload_n 0, 1) := by decide +kernel
theorem dX2_readArms_14 : decode cX2_readArms 14 = .ok (.iconst 1, 1) := by decide +kernel
theorem dX2_readArms_15 : decode cX2_readArms 15 = .ok (.putfield 29, 3) := by decide +kernel
theorem dX2_readArms_18 : decode cX2_readArms 18 = .ok (.aload_n 0, 1) := by decide +kernel
theorem dX2_readArms_19 : decode cX2_readArms 19 = .ok (.getfield 12, 3) := by decide +kernel
theorem dX2_readArms_22 : decode cX2_readArms 22 = .ok (.invokevirtual 104, 3) := by decide +kernel
theorem dX2_readArms_25 : decode cX2_readArms 25 = .ok (.aload_n 0, 1) := by decide +kernel
theorem dX2_readArms_26 : decode cX2_readArms 26 = .ok (.bipush 90, 2) := by decide +kernel
theorem dX2_readArms_28 : decode cX2_readArms 28 = .ok (.bipush 110, 2) := by decide +kernel
theorem dX2_readArms_30 : decode cX2_readArms 30 = .ok (.invokevirtual 107, 3) := by decide +kernel
set_option maxRecDepth 100000 in
theorem wm_X2_107 : Cond.methodLink RX2 107 yX2_takeNumber ∈ gw := gm (List.mem_of_getElem? (i := 631) (by decide +kernel)) rfl
set_option maxRecDepth 100000 in
theorem mi_X2_takeNumber : MI yX2_takeNumber cX2_takeNumber 3 (some .boolean) 2 := ⟨gm (List.mem_of_getElem? (i := 634) rfl) rfl, gm (List.mem_of_getElem? (i := 118) (by decide +kernel)) rfl, by decide, by decide, by decide +kernel⟩
set_option maxRecDepth 100000 in
theorem in_X2_takeNumber : Cond.instanceMethod yX2_takeNumber ∈ gw := gm (List.mem_of_getElem? (i := 633) (by decide +kernel)) rfl
set_option maxRecDepth 100000 in
theorem se_X2_takeNumber : Cond.selects yX2_takeNumber.cls yX2_takeNumber yX2_takeNumber ∈ gw := gm (List.mem_of_getElem? (i := 6) (by decide +kernel)) rfl
theorem dX2_readArms_33 : decode cX2_readArms 33 = .ok (.ifCond .ne 5, 3) := by decide +kernel
theorem dX2_readArms_36 : decode cX2_readArms 36 = .ok (.iconst 0, 1) := by decide +kernel
theorem dX2_readArms_37 : decode cX2_readArms 37 = .ok (.ireturn, 1) := by decide +kernel
theorem dX2_readArms_38 : decode cX2_readArms 38 = .ok (.aload_n 0, 1) := by decide +kernel
theorem dX2_readArms_39 : decode cX2_readArms 39 = .ok (.getfield 25, 3) := by decide +kernel
theorem dX2_readArms_42 : decode cX2_readArms 42 = .ok (.istore_n 1, 1) := by decide +kernel
theorem dX2_readArms_43 : decode cX2_readArms 43 = .ok (.aload_n 0, 1) := by decide +kernel
theorem dX2_readArms_44 : decode cX2_readArms 44 = .ok (.ldc2_w 111, 3) := by decide +kernel
set_option maxRecDepth 100000 in
theorem kl_X2_111 : Cond.constantLong RX2 111 29807 ∈ gw := gm (List.mem_of_getElem? (i := 635) (by decide +kernel)) rfl
theorem dX2_readArms_47 : decode cX2_readArms 47 = .ok (.invokevirtual 113, 3) := by decide +kernel
set_option maxRecDepth 100000 in
theorem wm_X2_113 : Cond.methodLink RX2 113 yX2_takeWord ∈ gw := gm (List.mem_of_getElem? (i := 636) (by decide +kernel)) rfl
set_option maxRecDepth 100000 in
theorem mi_X2_takeWord : MI yX2_takeWord cX2_takeWord 3 (some .boolean) 1 := ⟨gm (List.mem_of_getElem? (i := 639) rfl) rfl, gm (List.mem_of_getElem? (i := 118) (by decide +kernel)) rfl, by decide, by decide, by decide +kernel⟩
set_option maxRecDepth 100000 in
theorem in_X2_takeWord : Cond.instanceMethod yX2_takeWord ∈ gw := gm (List.mem_of_getElem? (i := 638) (by decide +kernel)) rfl
set_option maxRecDepth 100000 in
theorem se_X2_takeWord : Cond.selects yX2_takeWord.cls yX2_takeWord yX2_takeWord ∈ gw := gm (List.mem_of_getElem? (i := 7) (by decide +kernel)) rfl
theorem dX2_readArms_50 : decode cX2_readArms 50 = .ok (.ifCond .eq 20, 3) := by decide +kernel
theorem dX2_readArms_70 : decode cX2_readArms 70 = .ok (.iconst 0, 1) := by decide +kernel
theorem dX2_readArms_71 : decode cX2_readArms 71 = .ok (.ireturn, 1) := by decide +kernel
theorem dX2_readArms_53 : decode cX2_readArms 53 = .ok (.aload_n 0, 1) := by decide +kernel
theorem dX2_readArms_54 : decode cX2_readArms 54 = .ok (.iload_n 1, 1) := by decide +kernel
theorem dX2_readArms_55 : decode cX2_readArms 55 = .ok (.bipush 110, 2) := by decide +kernel
theorem dX2_readArms_57 : decode cX2_readArms 57 = .ok (.iload_n 1, 1) := by decide +kernel
theorem dX2_readArms_58 : decode cX2_readArms 58 = .ok (.bipush 6, 2) := by decide +kernel
theorem dX2_readArms_60 : decode cX2_readArms 60 = .ok (.iadd, 1) := by decide +kernel
theorem dX2_readArms_61 : decode cX2_readArms 61 = .ok (.invokestatic 116, 3) := by decide +kernel
set_option maxRecDepth 100000 in
theorem wm_X2_116 : Cond.methodLink RX2 116 Lib.Math.min.name ∈ gw := gm (List.mem_of_getElem? (i := 640) (by decide +kernel)) rfl
theorem dX2_readArms_64 : decode cX2_readArms 64 = .ok (.invokevirtual 107, 3) := by decide +kernel
theorem dX2_readArms_67 : decode cX2_readArms 67 = .ok (.ifCond .ne 5, 3) := by decide +kernel
theorem dX2_readArms_72 : decode cX2_readArms 72 = .ok (.aload_n 0, 1) := by decide +kernel
theorem dX2_readArms_73 : decode cX2_readArms 73 = .ok (.getfield 21, 3) := by decide +kernel
set_option maxRecDepth 100000 in
theorem wf_X2_21 : Cond.fieldLink RX2 21 "StoneTrust$Reader" "made" "LStoneTrust$Village;" ∈ gw := gm (List.mem_of_getElem? (i := 341) (by decide +kernel)) rfl
theorem dX2_readArms_76 : decode cX2_readArms 76 = .ok (.iload_n 1, 1) := by decide +kernel
theorem dX2_readArms_77 : decode cX2_readArms 77 = .ok (.putfield 122, 3) := by decide +kernel
set_option maxRecDepth 100000 in
theorem wf_X2_122 : Cond.fieldLinkNest RX2 122 "StoneTrust$Village" "armLow" "I" "StoneTrust" ∈ nests := nm_ (List.mem_of_getElem? (i := 225) (by decide +kernel)) rfl
theorem dX2_readArms_80 : decode cX2_readArms 80 = .ok (.aload_n 0, 1) := by decide +kernel
theorem dX2_readArms_81 : decode cX2_readArms 81 = .ok (.getfield 21, 3) := by decide +kernel
theorem dX2_readArms_84 : decode cX2_readArms 84 = .ok (.aload_n 0, 1) := by decide +kernel
theorem dX2_readArms_85 : decode cX2_readArms 85 = .ok (.getfield 25, 3) := by decide +kernel
theorem dX2_readArms_88 : decode cX2_readArms 88 = .ok (.putfield 125, 3) := by decide +kernel
set_option maxRecDepth 100000 in
theorem wf_X2_125 : Cond.fieldLinkNest RX2 125 "StoneTrust$Village" "armHigh" "I" "StoneTrust" ∈ nests := nm_ (List.mem_of_getElem? (i := 228) (by decide +kernel)) rfl
theorem dX2_readArms_91 : decode cX2_readArms 91 = .ok (.aload_n 0, 1) := by decide +kernel
theorem dX2_readArms_92 : decode cX2_readArms 92 = .ok (.invokevirtual 128, 3) := by decide +kernel
set_option maxRecDepth 100000 in
theorem wm_X2_128 : Cond.methodLink RX2 128 yX2_takeSign ∈ gw := gm (List.mem_of_getElem? (i := 643) (by decide +kernel)) rfl
set_option maxRecDepth 100000 in
theorem mi_X2_takeSign : MI yX2_takeSign cX2_takeSign 1 (some .boolean) 0 := ⟨gm (List.mem_of_getElem? (i := 646) rfl) rfl, gm (List.mem_of_getElem? (i := 118) (by decide +kernel)) rfl, by decide, by decide, by decide +kernel⟩
set_option maxRecDepth 100000 in
theorem in_X2_takeSign : Cond.instanceMethod yX2_takeSign ∈ gw := gm (List.mem_of_getElem? (i := 645) (by decide +kernel)) rfl
set_option maxRecDepth 100000 in
theorem se_X2_takeSign : Cond.selects yX2_takeSign.cls yX2_takeSign yX2_takeSign ∈ gw := gm (List.mem_of_getElem? (i := 8) (by decide +kernel)) rfl
theorem dX2_readArms_95 : decode cX2_readArms 95 = .ok (.ireturn, 1) := by decide +kernel
theorem dX2_readArms_7 : decode cX2_readArms 7 = .ok (.aload_n 0, 1) := by decide +kernel
theorem dX2_readArms_8 : decode cX2_readArms 8 = .ok (.iconst 2, 1) := by decide +kernel
theorem dX2_readArms_9 : decode cX2_readArms 9 = .ok (.invokevirtual 100, 3) := by decide +kernel
theorem dX2_readArms_12 : decode cX2_readArms 12 = .ok (.ireturn, 1) := by decide +kernel
set_option maxHeartbeats 4000000 in
set_option maxRecDepth 100000 in
theorem c52_X2_readArms (l : Launch) (G : va_G) (cI cJ cB cZ : ClassId) (a0 a1 a2 a3 a4 a5 a6 a7 a8 a9 a10 a11 a12 a13 a14 : Nat) (v_rd_2 : Int32) (v_rd_3 : Int32) (v_rd_4 : Int32) (v_rd_5 : Int32) (v_rd_6 : Int32) (v_rd_7 : Int32) (v_tp_1 : Int32) (v_tp_2 : Int32) (v_tp_3 : Int32) (v_tp_4 : Int32) (w_tp_5 : Int64) (v_tp_6 : Int32) (v_M_0 : Int32) (v_M_1 : Int32) (v_M_2 : Int32) (v_M_5 : Int32) (g_tp_bytes : Nat → Int32) (hv_0 : 0 ≤ v_rd_3.toInt) (hv_1 : v_rd_3.toInt ≤ 1) (hv_2 : 0 ≤ v_rd_4.toInt) (hv_3 : v_rd_4.toInt ≤ 1) (hv_4 : 0 ≤ v_tp_1.toInt) (hv_5 : v_tp_1.toInt ≤ 1300) (hv_6 : 0 ≤ v_tp_2.toInt) (hv_7 : v_tp_2.toInt ≤ 1300) (hv_8 : 0 ≤ v_M_0.toInt) (hv_9 : v_M_0.toInt ≤ 110) (hv_10 : 0 ≤ v_M_1.toInt) (hv_11 : v_M_1.toInt ≤ 110) (hv_12 : 0 ≤ v_M_5.toInt) (hv_13 : v_M_5.toInt ≤ 6) (hT_g_tp_bytes : TA (-128) 127 g_tp_bytes) : Con l G (TY cI cJ cB cZ) yX2_readArms cX2_readArms 2 (some .boolean) ({ frames := 4, cells := 0, slots := 0, locals := 83 } : Room) [.ref a0] [(a0, .inr (2, [.ref a1, .ref a2, .int v_rd_2, .int v_rd_3, .int v_rd_4, .int v_rd_5, .int v_rd_6, .int v_rd_7])), (a1, .inr (5, [.ref a3, .int v_tp_1, .int v_tp_2, .int v_tp_3, .int v_tp_4, .long w_tp_5, .int v_tp_6])), (a3, .inl (cB, 1300, .inl g_tp_bytes)), (a2, .inr (7, [.int v_M_0, .int v_M_1, .int v_M_2, .ref a4, .ref a5, .int v_M_5, .ref a6, .ref a7, .ref a8, .ref a9, .ref a10, .ref a11, .ref a12, .ref a13, .ref a14]))] (QI G (TY cI cJ cB cZ) (fun (r : Int32) (u : Int32 × Int32 × Int32 × Int32 × Int32 × Int32 × Int32 × Int64 × Int32 × Int32 × Int32) => (0 ≤ r.toInt ∧ r.toInt ≤ 1 ∧ 1 ≤ u.2.1.toInt ∧ u.2.1.toInt ≤ 1 ∧ 0 ≤ u.2.2.2.2.1.toInt ∧ u.2.2.2.2.1.toInt ≤ 1300 ∧ 0 ≤ u.2.2.2.2.2.2.2.2.2.1.toInt ∧ u.2.2.2.2.2.2.2.2.2.1.toInt ≤ 110 ∧ 0 ≤ u.2.2.2.2.2.2.2.2.2.2.toInt ∧ u.2.2.2.2.2.2.2.2.2.2.toInt ≤ 110)) (fun u : Int32 × Int32 × Int32 × Int32 × Int32 × Int32 × Int32 × Int64 × Int32 × Int32 × Int32 => [(a0, .inr (2, [.ref a1, .ref a2, .int u.1, .int u.2.1, .int v_rd_4, .int v_rd_5, .int u.2.2.1, .int u.2.2.2.1])), (a1, .inr (5, [.ref a3, .int v_tp_1, .int u.2.2.2.2.1, .int u.2.2.2.2.2.1, .int u.2.2.2.2.2.2.1, .long u.2.2.2.2.2.2.2.1, .int u.2.2.2.2.2.2.2.2.1])), (a3, .inl (cB, 1300, .inl g_tp_bytes)), (a2, .inr (7, [.int u.2.2.2.2.2.2.2.2.2.1, .int u.2.2.2.2.2.2.2.2.2.2, .int v_M_2, .ref a4, .ref a5, .int v_M_5, .ref a6, .ref a7, .ref a8, .ref a9, .ref a10, .ref a11, .ref a12, .ref a13, .ref a14]))])) := by
  refine k_met (by decide) (Nat.le_of_ble_eq_true rfl) ?_
  intro p e s m below meth c A ls hC hr hlk hnm hN hZ hK hA hP hD hS hl
  have hl : lv_has ls 2 [(0, .ref a0)] := hl
  generalize hQm : MQ below _ _ s _ _ A = Qm
  generalize (List.toArray _ : Array Value) = args at hC hQm ⊢
  obtain ⟨hx, hb, hml, hown, hts⟩ := id hC
  obtain ⟨H, hH⟩ : ∃ q, q = s.heap := ⟨_, rfl⟩
  obtain ⟨locs, hlo⟩ : ∃ q : List Loc, q = [] := ⟨_, rfl⟩
  have hP : va_P G cl [(a0, .inr (2, [.ref a1, .ref a2, .int v_rd_2, .int v_rd_3, .int v_rd_4, .int v_rd_5, .int v_rd_6, .int v_rd_7])), (a1, .inr (5, [.ref a3, .int v_tp_1, .int v_tp_2, .int v_tp_3, .int v_tp_4, .long w_tp_5, .int v_tp_6])), (a3, .inl (cB, 1300, .inl g_tp_bytes)), (a2, .inr (7, [.int v_M_0, .int v_M_1, .int v_M_2, .ref a4, .ref a5, .int v_M_5, .ref a6, .ref a7, .ref a8, .ref a9, .ref a10, .ref a11, .ref a12, .ref a13, .ref a14]))] H := by rw [hH]; exact hP
  have hS : va_S A s.heap H locs := by rw [hH, hlo]; exact hS
  rw [← hlo]
  rw [← hH]
  refine lv_aload_n hx hb dX2_readArms_0 rfl (lv_at hl 0 rfl) ?_
  refine k_get hC hK hP iX2 0 3 wf_X2_29 rfl (by decide) rfl rfl dX2_readArms_1 ?_
  refine lv_if_eq (tgt := 13) hx hb dX2_readArms_4 (by decide) (fun c1 => ?_) (fun c1 => ?_)
  · have dc1 : v_rd_3.toInt = 0 := (fa_eq _ _).mp c1
    refine lv_aload_n hx hb dX2_readArms_13 rfl (lv_at hl 0 rfl) ?_
    refine lv_iconst (v := 1) hx hb dX2_readArms_14 (by decide) ?_
    refine k_put hC hK hP hD hS iX2 tyX2_ok nmX2 0 3 wf_X2_29 rfl (by decide) rfl rfl rfl rfl (Nat.le_of_ble_eq_true rfl) dX2_readArms_15 (fun H locs hP hD hS => ?_)
    have hP : va_P G cl [(a0, .inr (2, [.ref a1, .ref a2, .int v_rd_2, .int 1, .int v_rd_4, .int v_rd_5, .int v_rd_6, .int v_rd_7])), (a1, .inr (5, [.ref a3, .int v_tp_1, .int v_tp_2, .int v_tp_3, .int v_tp_4, .long w_tp_5, .int v_tp_6])), (a3, .inl (cB, 1300, .inl g_tp_bytes)), (a2, .inr (7, [.int v_M_0, .int v_M_1, .int v_M_2, .ref a4, .ref a5, .int v_M_5, .ref a6, .ref a7, .ref a8, .ref a9, .ref a10, .ref a11, .ref a12, .ref a13, .ref a14]))] H := hP
    have hD : va_D A [(a0, .inr (2, [.ref a1, .ref a2, .int v_rd_2, .int 1, .int v_rd_4, .int v_rd_5, .int v_rd_6, .int v_rd_7])), (a1, .inr (5, [.ref a3, .int v_tp_1, .int v_tp_2, .int v_tp_3, .int v_tp_4, .long w_tp_5, .int v_tp_6])), (a3, .inl (cB, 1300, .inl g_tp_bytes)), (a2, .inr (7, [.int v_M_0, .int v_M_1, .int v_M_2, .ref a4, .ref a5, .int v_M_5, .ref a6, .ref a7, .ref a8, .ref a9, .ref a10, .ref a11, .ref a12, .ref a13, .ref a14]))] := hD
    refine lv_aload_n hx hb dX2_readArms_18 rfl (lv_at hl 0 rfl) ?_
    refine k_get hC hK hP iX2 0 0 wf_X2_12 rfl (by decide) rfl rfl dX2_readArms_19 ?_
    refine k_cv (wr := [(a0, .inr (2, [.ref a1, .ref a2, .int v_rd_2, .int 1, .int v_rd_4, .int v_rd_5, .int v_rd_6, .int v_rd_7])), (a2, .inr (7, [.int v_M_0, .int v_M_1, .int v_M_2, .ref a4, .ref a5, .int v_M_5, .ref a6, .ref a7, .ref a8, .ref a9, .ref a10, .ref a11, .ref a12, .ref a13, .ref a14]))]) (k_rV hC hN hZ hS hA hK hP hD (c20_X5_advance l G cI cJ cB cZ a1 a3 v_tp_1 v_tp_2 v_tp_3 v_tp_4 w_tp_5 v_tp_6 g_tp_bytes hv_4 hv_5 hv_6 hv_7 hT_g_tp_bytes) [1, 2] rfl (by decide +kernel) mi_X5_advance in_X5_advance se_X5_advance wm_X2_104 5 1 rfl rfl rfl hl.1 rfl rfl (Nat.le_of_ble_eq_true rfl) ⟨(Nat.le_of_ble_eq_true rfl), (Nat.le_of_ble_eq_true rfl)⟩ dX2_readArms_22 ⟨(Nat.le_of_ble_eq_true rfl), (Nat.le_of_ble_eq_true rfl)⟩) hP hD hS hA [1, 2] [0, 3] rfl rfl (by decide +kernel) (by decide +kernel) (fun u2 H locs hp hP hD hS => ?_)
    obtain ⟨h3, h4, h5, y6, h7⟩ := u2
    have hp : (0 ≤ h3.toInt ∧ h3.toInt ≤ 1300 ∧ 0 ≤ h4.toInt ∧ h4.toInt ≤ 1300 ∧ 0 ≤ h5.toInt ∧ h5.toInt ≤ 4) := hp
    have hP : va_P G cl [(a0, .inr (2, [.ref a1, .ref a2, .int v_rd_2, .int 1, .int v_rd_4, .int v_rd_5, .int v_rd_6, .int v_rd_7])), (a2, .inr (7, [.int v_M_0, .int v_M_1, .int v_M_2, .ref a4, .ref a5, .int v_M_5, .ref a6, .ref a7, .ref a8, .ref a9, .ref a10, .ref a11, .ref a12, .ref a13, .ref a14])), (a1, .inr (5, [.ref a3, .int v_tp_1, .int h3, .int h4, .int h5, .long y6, .int h7])), (a3, .inl (cB, 1300, .inl g_tp_bytes))] H := hP
    have hD : va_D A [(a0, .inr (2, [.ref a1, .ref a2, .int v_rd_2, .int 1, .int v_rd_4, .int v_rd_5, .int v_rd_6, .int v_rd_7])), (a2, .inr (7, [.int v_M_0, .int v_M_1, .int v_M_2, .ref a4, .ref a5, .int v_M_5, .ref a6, .ref a7, .ref a8, .ref a9, .ref a10, .ref a11, .ref a12, .ref a13, .ref a14])), (a1, .inr (5, [.ref a3, .int v_tp_1, .int h3, .int h4, .int h5, .long y6, .int h7])), (a3, .inl (cB, 1300, .inl g_tp_bytes))] := hD
    have hq2 := hp
    refine lv_aload_n hx hb dX2_readArms_25 rfl (lv_at hl 0 rfl) ?_
    refine lv_bipush (v := 90) hx hb dX2_readArms_26 (by decide) ?_
    refine lv_bipush (v := 110) hx hb dX2_readArms_28 (by decide) ?_
    have l_l9 : (1 : Int32).toInt = 1 := rfl
    refine k_ci (wr := [(a2, .inr (7, [.int v_M_0, .int v_M_1, .int v_M_2, .ref a4, .ref a5, .int v_M_5, .ref a6, .ref a7, .ref a8, .ref a9, .ref a10, .ref a11, .ref a12, .ref a13, .ref a14]))]) (k_rV hC hN hZ hS hA hK hP hD (c48_X2_takeNumber l G cI cJ cB cZ a0 a1 a2 a3 v_rd_2 1 v_rd_4 v_rd_5 v_rd_6 v_rd_7 v_tp_1 h3 h4 h5 y6 h7 g_tp_bytes (by omega) (by omega) hv_2 hv_3 hv_4 hv_5 (by omega) (by omega) hT_g_tp_bytes) [0, 2, 3] rfl (by decide +kernel) mi_X2_takeNumber in_X2_takeNumber se_X2_takeNumber wm_X2_107 2 0 rfl rfl rfl hl.1 rfl rfl (Nat.le_of_ble_eq_true rfl) ⟨(Nat.le_of_ble_eq_true rfl), (Nat.le_of_ble_eq_true rfl)⟩ dX2_readArms_30 ⟨(Nat.le_of_ble_eq_true rfl), (Nat.le_of_ble_eq_true rfl)⟩) hP hD hS hA [0, 2, 3] [1] rfl rfl (by decide +kernel) (by decide +kernel) (fun r8 u8 H locs hp hP hD hS => ?_)
    obtain ⟨h10, h11, h12, h13, h14, h15, y16, h17⟩ := u8
    have hP : va_P G cl [(a2, .inr (7, [.int v_M_0, .int v_M_1, .int v_M_2, .ref a4, .ref a5, .int v_M_5, .ref a6, .ref a7, .ref a8, .ref a9, .ref a10, .ref a11, .ref a12, .ref a13, .ref a14])), (a0, .inr (2, [.ref a1, .ref a2, .int h10, .int 1, .int v_rd_4, .int v_rd_5, .int h11, .int h12])), (a1, .inr (5, [.ref a3, .int v_tp_1, .int h13, .int h14, .int h15, .long y16, .int h17])), (a3, .inl (cB, 1300, .inl g_tp_bytes))] H := hP
    have hD : va_D A [(a2, .inr (7, [.int v_M_0, .int v_M_1, .int v_M_2, .ref a4, .ref a5, .int v_M_5, .ref a6, .ref a7, .ref a8, .ref a9, .ref a10, .ref a11, .ref a12, .ref a13, .ref a14])), (a0, .inr (2, [.ref a1, .ref a2, .int h10, .int 1, .int v_rd_4, .int v_rd_5, .int h11, .int h12])), (a1, .inr (5, [.ref a3, .int v_tp_1, .int h13, .int h14, .int h15, .long y16, .int h17])), (a3, .inl (cB, 1300, .inl g_tp_bytes))] := hD
    rcases (show (r8 = 0 ∧ (0 ≤ h13.toInt ∧ h13.toInt ≤ 1300)) ∨ (r8 = 1 ∧ (90 ≤ h10.toInt ∧ h10.toInt ≤ 110 ∧ 0 ≤ h13.toInt ∧ h13.toInt ≤ 1300 ∧ 0 ≤ h14.toInt ∧ h14.toInt ≤ 1300 ∧ 0 ≤ h15.toInt ∧ h15.toInt ≤ 4)) from hp) with ⟨rfl, hq8⟩ | ⟨rfl, hq8⟩
    · clear hp
      have l_8 : (0 : Int32).toInt = 0 := rfl
      refine lv_if_ne (tgt := 38) hx hb dX2_readArms_33 (by decide) (fun c_ => absurd (by decide +kernel) c_) (fun _ => ?_)
      refine lv_iconst (v := 0) hx hb dX2_readArms_36 (by decide) ?_
      have l_l18 : (1 : Int32).toInt = 1 := rfl
      have l_l19 : (0 : Int32).toInt = 0 := rfl
      rw [← hQm]
      exact k_zret hC hr hlk hK hP hD hS (h10, 1, h11, h12, h13, h14, h15, y16, h17, v_M_0, v_M_1) [1, 2, 3, 0] rfl (by decide +kernel) rfl (show 0 ≤ (0 : Int32).toInt ∧ (0 : Int32).toInt ≤ 1 ∧ 1 ≤ (1 : Int32).toInt ∧ (1 : Int32).toInt ≤ 1 ∧ 0 ≤ h13.toInt ∧ h13.toInt ≤ 1300 ∧ 0 ≤ v_M_0.toInt ∧ v_M_0.toInt ≤ 110 ∧ 0 ≤ v_M_1.toInt ∧ v_M_1.toInt ≤ 110 from by omega) (Nat.le_of_ble_eq_true rfl) (Nat.le_of_ble_eq_true rfl) dX2_readArms_37
    · clear hp
      have l_8 : (1 : Int32).toInt = 1 := rfl
      refine lv_if_ne (tgt := 38) hx hb dX2_readArms_33 (by decide) (fun _ => ?_) (fun c_ => absurd c_ (by decide +kernel))
      refine lv_aload_n hx hb dX2_readArms_38 rfl (lv_at hl 0 rfl) ?_
      refine k_get hC hK hP iX2 1 2 wf_X2_25 rfl (by decide) rfl rfl dX2_readArms_39 ?_
      refine lv_istore_n (lv' := [(1, .int h10), (0, .ref a0)]) hx hb dX2_readArms_42 rfl hl (by decide) rfl (fun ls hl => ?_)
      refine lv_aload_n hx hb dX2_readArms_43 rfl (lv_at hl 1 rfl) ?_
      refine lv_ldc2 (v := 29807) hx hb hown (hts _ kl_X2_111) dX2_readArms_44 ?_
      have l_l21 : (1 : Int32).toInt = 1 := rfl
      refine k_ci (wr := [(a2, .inr (7, [.int v_M_0, .int v_M_1, .int v_M_2, .ref a4, .ref a5, .int v_M_5, .ref a6, .ref a7, .ref a8, .ref a9, .ref a10, .ref a11, .ref a12, .ref a13, .ref a14]))]) (k_rV hC hN hZ hS hA hK hP hD (c49_X2_takeWord l G cI cJ cB cZ a0 a1 a2 a3 29807 h10 1 v_rd_4 v_rd_5 h11 h12 v_tp_1 h13 h14 h15 y16 h17 g_tp_bytes (by omega) (by omega) hv_2 hv_3 hv_4 hv_5 (by omega) (by omega) hT_g_tp_bytes) [1, 2, 3] rfl (by decide +kernel) mi_X2_takeWord in_X2_takeWord se_X2_takeWord wm_X2_113 2 1 rfl rfl rfl hl.1 rfl rfl (Nat.le_of_ble_eq_true rfl) ⟨(Nat.le_of_ble_eq_true rfl), (Nat.le_of_ble_eq_true rfl)⟩ dX2_readArms_47 ⟨(Nat.le_of_ble_eq_true rfl), (Nat.le_of_ble_eq_true rfl)⟩) hP hD hS hA [1, 2, 3] [0] rfl rfl (by decide +kernel) (by decide +kernel) (fun r20 u20 H locs hp hP hD hS => ?_)
      obtain ⟨h22, h23, h24, h25, h26, y27, h28⟩ := u20
      have hp : (0 ≤ r20.toInt ∧ r20.toInt ≤ 1 ∧ 0 ≤ h24.toInt ∧ h24.toInt ≤ 1300) := hp
      have hP : va_P G cl [(a2, .inr (7, [.int v_M_0, .int v_M_1, .int v_M_2, .ref a4, .ref a5, .int v_M_5, .ref a6, .ref a7, .ref a8, .ref a9, .ref a10, .ref a11, .ref a12, .ref a13, .ref a14])), (a0, .inr (2, [.ref a1, .ref a2, .int h10, .int 1, .int v_rd_4, .int v_rd_5, .int h22, .int h23])), (a1, .inr (5, [.ref a3, .int v_tp_1, .int h24, .int h25, .int h26, .long y27, .int h28])), (a3, .inl (cB, 1300, .inl g_tp_bytes))] H := hP
      have hD : va_D A [(a2, .inr (7, [.int v_M_0, .int v_M_1, .int v_M_2, .ref a4, .ref a5, .int v_M_5, .ref a6, .ref a7, .ref a8, .ref a9, .ref a10, .ref a11, .ref a12, .ref a13, .ref a14])), (a0, .inr (2, [.ref a1, .ref a2, .int h10, .int 1, .int v_rd_4, .int v_rd_5, .int h22, .int h23])), (a1, .inr (5, [.ref a3, .int v_tp_1, .int h24, .int h25, .int h26, .long y27, .int h28])), (a3, .inl (cB, 1300, .inl g_tp_bytes))] := hD
      have hq20 := hp
      refine lv_if_eq (tgt := 70) hx hb dX2_readArms_50 (by decide) (fun c29 => ?_) (fun c29 => ?_)
      · have dc29 : r20.toInt = 0 := (fa_eq _ _).mp c29
        refine lv_iconst (v := 0) hx hb dX2_readArms_70 (by decide) ?_
        have l_l30 : (1 : Int32).toInt = 1 := rfl
        have l_l31 : (0 : Int32).toInt = 0 := rfl
        rw [← hQm]
        exact k_zret hC hr hlk hK hP hD hS (h10, 1, h22, h23, h24, h25, h26, y27, h28, v_M_0, v_M_1) [1, 2, 3, 0] rfl (by decide +kernel) rfl (show 0 ≤ (0 : Int32).toInt ∧ (0 : Int32).toInt ≤ 1 ∧ 1 ≤ (1 : Int32).toInt ∧ (1 : Int32).toInt ≤ 1 ∧ 0 ≤ h24.toInt ∧ h24.toInt ≤ 1300 ∧ 0 ≤ v_M_0.toInt ∧ v_M_0.toInt ≤ 110 ∧ 0 ≤ v_M_1.toInt ∧ v_M_1.toInt ≤ 110 from by omega) (Nat.le_of_ble_eq_true rfl) (Nat.le_of_ble_eq_true rfl) dX2_readArms_71
      · have dc29 : r20.toInt ≠ 0 := fa_ne c29
        refine lv_aload_n hx hb dX2_readArms_53 rfl (lv_at hl 1 rfl) ?_
        refine lv_iload_n hx hb dX2_readArms_54 rfl (lv_at hl 0 rfl) ?_
        refine lv_bipush (v := 110) hx hb dX2_readArms_55 (by decide) ?_
        refine lv_iload_n hx hb dX2_readArms_57 rfl (lv_at hl 0 rfl) ?_
        refine lv_bipush (v := 6) hx hb dX2_readArms_58 (by decide) ?_
        refine lv_iadd hx hb dX2_readArms_60 ?_
        refine t_i (fun q => q.toInt = h10.toInt + 6) (add_i (by show (-2147483648 : Int) ≤ h10.toInt + 6; omega) (by show h10.toInt + 6 ≤ (2147483647 : Int); omega)) (fun z32 tz32 => ?_)
        refine va_mmin hx hb (hml.trans hl.1.symm) hown (hts _ wm_X2_116) (hts _ st_Mmin) (hts _ ini_Math) (hts _ co_Mmin) (Nat.le_of_ble_eq_true rfl) (Nat.le_of_ble_eq_true rfl) (Nat.le_of_ble_eq_true rfl) (Nat.le_of_ble_eq_true rfl) dX2_readArms_61 ?_
        refine t_i (fun q => q.toInt ≤ 110 ∧ q.toInt ≤ z32.toInt ∧ (q.toInt = 110 ∨ q.toInt = z32.toInt)) (min_b 110 z32) (fun z33 tz33 => ?_)
        have l_l35 : (1 : Int32).toInt = 1 := rfl
        refine k_ci (wr := [(a2, .inr (7, [.int v_M_0, .int v_M_1, .int v_M_2, .ref a4, .ref a5, .int v_M_5, .ref a6, .ref a7, .ref a8, .ref a9, .ref a10, .ref a11, .ref a12, .ref a13, .ref a14]))]) (k_rV hC hN hZ hS hA hK hP hD (c50_X2_takeNumber l G cI cJ cB cZ a0 a1 a2 a3 h10 z33 h10 1 v_rd_4 v_rd_5 h22 h23 v_tp_1 h24 h25 h26 y27 h28 g_tp_bytes (by omega) (by omega) (by omega) (by omega) (by omega) (by omega) hv_2 hv_3 hv_4 hv_5 (by omega) (by omega) hT_g_tp_bytes) [1, 2, 3] rfl (by decide +kernel) mi_X2_takeNumber in_X2_takeNumber se_X2_takeNumber wm_X2_107 2 1 rfl rfl rfl hl.1 rfl rfl (Nat.le_of_ble_eq_true rfl) ⟨(Nat.le_of_ble_eq_true rfl), (Nat.le_of_ble_eq_true rfl)⟩ dX2_readArms_64 ⟨(Nat.le_of_ble_eq_true rfl), (Nat.le_of_ble_eq_true rfl)⟩) hP hD hS hA [1, 2, 3] [0] rfl rfl (by decide +kernel) (by decide +kernel) (fun r34 u34 H locs hp hP hD hS => ?_)
        obtain ⟨h36, h37, h38, h39, h40, h41, y42, h43⟩ := u34
        have hP : va_P G cl [(a2, .inr (7, [.int v_M_0, .int v_M_1, .int v_M_2, .ref a4, .ref a5, .int v_M_5, .ref a6, .ref a7, .ref a8, .ref a9, .ref a10, .ref a11, .ref a12, .ref a13, .ref a14])), (a0, .inr (2, [.ref a1, .ref a2, .int h36, .int 1, .int v_rd_4, .int v_rd_5, .int h37, .int h38])), (a1, .inr (5, [.ref a3, .int v_tp_1, .int h39, .int h40, .int h41, .long y42, .int h43])), (a3, .inl (cB, 1300, .inl g_tp_bytes))] H := hP
        have hD : va_D A [(a2, .inr (7, [.int v_M_0, .int v_M_1, .int v_M_2, .ref a4, .ref a5, .int v_M_5, .ref a6, .ref a7, .ref a8, .ref a9, .ref a10, .ref a11, .ref a12, .ref a13, .ref a14])), (a0, .inr (2, [.ref a1, .ref a2, .int h36, .int 1, .int v_rd_4, .int v_rd_5, .int h37, .int h38])), (a1, .inr (5, [.ref a3, .int v_tp_1, .int h39, .int h40, .int h41, .long y42, .int h43])), (a3, .inl (cB, 1300, .inl g_tp_bytes))] := hD
        rcases (show (r34 = 0 ∧ (0 ≤ h39.toInt ∧ h39.toInt ≤ 1300)) ∨ (r34 = 1 ∧ (90 ≤ h36.toInt ∧ h36.toInt ≤ 110 ∧ 0 ≤ h39.toInt ∧ h39.toInt ≤ 1300 ∧ 0 ≤ h40.toInt ∧ h40.toInt ≤ 1300 ∧ 0 ≤ h41.toInt ∧ h41.toInt ≤ 4)) from hp) with ⟨rfl, hq34⟩ | ⟨rfl, hq34⟩
        · clear hp
          have l_34 : (0 : Int32).toInt = 0 := rfl
          refine lv_if_ne (tgt := 72) hx hb dX2_readArms_67 (by decide) (fun c_ => absurd (by decide +kernel) c_) (fun _ => ?_)
          refine lv_iconst (v := 0) hx hb dX2_readArms_70 (by decide) ?_
          have l_l44 : (1 : Int32).toInt = 1 := rfl
          have l_l45 : (0 : Int32).toInt = 0 := rfl
          rw [← hQm]
          exact k_zret hC hr hlk hK hP hD hS (h36, 1, h37, h38, h39, h40, h41, y42, h43, v_M_0, v_M_1) [1, 2, 3, 0] rfl (by decide +kernel) rfl (show 0 ≤ (0 : Int32).toInt ∧ (0 : Int32).toInt ≤ 1 ∧ 1 ≤ (1 : Int32).toInt ∧ (1 : Int32).toInt ≤ 1 ∧ 0 ≤ h39.toInt ∧ h39.toInt ≤ 1300 ∧ 0 ≤ v_M_0.toInt ∧ v_M_0.toInt ≤ 110 ∧ 0 ≤ v_M_1.toInt ∧ v_M_1.toInt ≤ 110 from by omega) (Nat.le_of_ble_eq_true rfl) (Nat.le_of_ble_eq_true rfl) dX2_readArms_71
        · clear hp
          have l_34 : (1 : Int32).toInt = 1 := rfl
          refine lv_if_ne (tgt := 72) hx hb dX2_readArms_67 (by decide) (fun _ => ?_) (fun c_ => absurd c_ (by decide +kernel))
          refine lv_aload_n hx hb dX2_readArms_72 rfl (lv_at hl 1 rfl) ?_
          refine k_get hC hK hP iX2 1 1 wf_X2_21 rfl (by decide) rfl rfl dX2_readArms_73 ?_
          refine lv_iload_n hx hb dX2_readArms_76 rfl (lv_at hl 0 rfl) ?_
          refine k_putN hC hN hK hP hD hS iX7 tyX7_ok nmX7 0 0 wf_X2_122 rfl (by decide) rfl rfl rfl rfl (Nat.le_of_ble_eq_true rfl) dX2_readArms_77 (fun H locs hP hD hS => ?_)
          have hP : va_P G cl [(a2, .inr (7, [.int h10, .int v_M_1, .int v_M_2, .ref a4, .ref a5, .int v_M_5, .ref a6, .ref a7, .ref a8, .ref a9, .ref a10, .ref a11, .ref a12, .ref a13, .ref a14])), (a0, .inr (2, [.ref a1, .ref a2, .int h36, .int 1, .int v_rd_4, .int v_rd_5, .int h37, .int h38])), (a1, .inr (5, [.ref a3, .int v_tp_1, .int h39, .int h40, .int h41, .long y42, .int h43])), (a3, .inl (cB, 1300, .inl g_tp_bytes))] H := hP
          have hD : va_D A [(a2, .inr (7, [.int h10, .int v_M_1, .int v_M_2, .ref a4, .ref a5, .int v_M_5, .ref a6, .ref a7, .ref a8, .ref a9, .ref a10, .ref a11, .ref a12, .ref a13, .ref a14])), (a0, .inr (2, [.ref a1, .ref a2, .int h36, .int 1, .int v_rd_4, .int v_rd_5, .int h37, .int h38])), (a1, .inr (5, [.ref a3, .int v_tp_1, .int h39, .int h40, .int h41, .long y42, .int h43])), (a3, .inl (cB, 1300, .inl g_tp_bytes))] := hD
          refine lv_aload_n hx hb dX2_readArms_80 rfl (lv_at hl 1 rfl) ?_
          refine k_get hC hK hP iX2 1 1 wf_X2_21 rfl (by decide) rfl rfl dX2_readArms_81 ?_
          refine lv_aload_n hx hb dX2_readArms_84 rfl (lv_at hl 1 rfl) ?_
          refine k_get hC hK hP iX2 1 2 wf_X2_25 rfl (by decide) rfl rfl dX2_readArms_85 ?_
          refine k_putN hC hN hK hP hD hS iX7 tyX7_ok nmX7 0 1 wf_X2_125 rfl (by decide) rfl rfl rfl rfl (Nat.le_of_ble_eq_true rfl) dX2_readArms_88 (fun H locs hP hD hS => ?_)
          have hP : va_P G cl [(a2, .inr (7, [.int h10, .int h36, .int v_M_2, .ref a4, .ref a5, .int v_M_5, .ref a6, .ref a7, .ref a8, .ref a9, .ref a10, .ref a11, .ref a12, .ref a13, .ref a14])), (a0, .inr (2, [.ref a1, .ref a2, .int h36, .int 1, .int v_rd_4, .int v_rd_5, .int h37, .int h38])), (a1, .inr (5, [.ref a3, .int v_tp_1, .int h39, .int h40, .int h41, .long y42, .int h43])), (a3, .inl (cB, 1300, .inl g_tp_bytes))] H := hP
          have hD : va_D A [(a2, .inr (7, [.int h10, .int h36, .int v_M_2, .ref a4, .ref a5, .int v_M_5, .ref a6, .ref a7, .ref a8, .ref a9, .ref a10, .ref a11, .ref a12, .ref a13, .ref a14])), (a0, .inr (2, [.ref a1, .ref a2, .int h36, .int 1, .int v_rd_4, .int v_rd_5, .int h37, .int h38])), (a1, .inr (5, [.ref a3, .int v_tp_1, .int h39, .int h40, .int h41, .long y42, .int h43])), (a3, .inl (cB, 1300, .inl g_tp_bytes))] := hD
          refine lv_aload_n hx hb dX2_readArms_91 rfl (lv_at hl 1 rfl) ?_
          have l_l47 : (1 : Int32).toInt = 1 := rfl
          refine k_ci (wr := [(a2, .inr (7, [.int h10, .int h36, .int v_M_2, .ref a4, .ref a5, .int v_M_5, .ref a6, .ref a7, .ref a8, .ref a9, .ref a10, .ref a11, .ref a12, .ref a13, .ref a14]))]) (k_rV hC hN hZ hS hA hK hP hD (c51_X2_takeSign l G cI cJ cB cZ a0 a1 a2 a3 h36 1 v_rd_4 v_rd_5 h37 h38 v_tp_1 h39 h40 h41 y42 h43 g_tp_bytes (by omega) (by omega) hv_2 hv_3 hv_4 hv_5 (by omega) (by omega) hT_g_tp_bytes) [1, 2, 3] rfl (by decide +kernel) mi_X2_takeSign in_X2_takeSign se_X2_takeSign wm_X2_128 2 1 rfl rfl rfl hl.1 rfl rfl (Nat.le_of_ble_eq_true rfl) ⟨(Nat.le_of_ble_eq_true rfl), (Nat.le_of_ble_eq_true rfl)⟩ dX2_readArms_92 ⟨(Nat.le_of_ble_eq_true rfl), (Nat.le_of_ble_eq_true rfl)⟩) hP hD hS hA [1, 2, 3] [0] rfl rfl (by decide +kernel) (by decide +kernel) (fun r46 u46 H locs hp hP hD hS => ?_)
          obtain ⟨h48, h49, h50, h51, h52, y53, h54⟩ := u46
          have hp : (0 ≤ r46.toInt ∧ r46.toInt ≤ 1 ∧ 0 ≤ h50.toInt ∧ h50.toInt ≤ 1300) := hp
          have hP : va_P G cl [(a2, .inr (7, [.int h10, .int h36, .int v_M_2, .ref a4, .ref a5, .int v_M_5, .ref a6, .ref a7, .ref a8, .ref a9, .ref a10, .ref a11, .ref a12, .ref a13, .ref a14])), (a0, .inr (2, [.ref a1, .ref a2, .int h36, .int 1, .int v_rd_4, .int v_rd_5, .int h48, .int h49])), (a1, .inr (5, [.ref a3, .int v_tp_1, .int h50, .int h51, .int h52, .long y53, .int h54])), (a3, .inl (cB, 1300, .inl g_tp_bytes))] H := hP
          have hD : va_D A [(a2, .inr (7, [.int h10, .int h36, .int v_M_2, .ref a4, .ref a5, .int v_M_5, .ref a6, .ref a7, .ref a8, .ref a9, .ref a10, .ref a11, .ref a12, .ref a13, .ref a14])), (a0, .inr (2, [.ref a1, .ref a2, .int h36, .int 1, .int v_rd_4, .int v_rd_5, .int h48, .int h49])), (a1, .inr (5, [.ref a3, .int v_tp_1, .int h50, .int h51, .int h52, .long y53, .int h54])), (a3, .inl (cB, 1300, .inl g_tp_bytes))] := hD
          have hq46 := hp
          have l_l55 : (1 : Int32).toInt = 1 := rfl
          rw [← hQm]
          exact k_zret hC hr hlk hK hP hD hS (h36, 1, h48, h49, h50, h51, h52, y53, h54, h10, h36) [1, 2, 3, 0] rfl (by decide +kernel) (nar_bool (by omega) (by omega)) (show 0 ≤ r46.toInt ∧ r46.toInt ≤ 1 ∧ 1 ≤ (1 : Int32).toInt ∧ (1 : Int32).toInt ≤ 1 ∧ 0 ≤ h50.toInt ∧ h50.toInt ≤ 1300 ∧ 0 ≤ h10.toInt ∧ h10.toInt ≤ 110 ∧ 0 ≤ h36.toInt ∧ h36.toInt ≤ 110 from by omega) (Nat.le_of_ble_eq_true rfl) (Nat.le_of_ble_eq_true rfl) dX2_readArms_95
  · have dc1 : v_rd_3.toInt ≠ 0 := fa_ne c1
    refine lv_aload_n hx hb dX2_readArms_7 rfl (lv_at hl 0 rfl) ?_
    refine lv_iconst (v := 2) hx hb dX2_readArms_8 (by decide) ?_
    have l_l57 : (2 : Int32).toInt = 2 := rfl
    refine k_ci (wr := [(a3, .inl (cB, 1300, .inl g_tp_bytes)), (a2, .inr (7, [.int v_M_0, .int v_M_1, .int v_M_2, .ref a4, .ref a5, .int v_M_5, .ref a6, .ref a7, .ref a8, .ref a9, .ref a10, .ref a11, .ref a12, .ref a13, .ref a14]))]) (k_rV hC hN hZ hS hA hK hP hD (c47_X2_refuse l G cI cJ cB cZ a0 a1 a2 a3 2 v_rd_2 v_rd_3 v_rd_4 v_rd_5 v_rd_6 v_rd_7 v_tp_1 v_tp_2 v_tp_3 v_tp_4 w_tp_5 v_tp_6 hv_0 hv_1 hv_2 hv_3 hv_4 hv_5 hv_6 hv_7) [0, 1] rfl (by decide +kernel) mi_X2_refuse in_X2_refuse se_X2_refuse wm_X2_100 2 0 rfl rfl rfl hl.1 rfl rfl (Nat.le_of_ble_eq_true rfl) ⟨(Nat.le_of_ble_eq_true rfl), (Nat.le_of_ble_eq_true rfl)⟩ dX2_readArms_9 ⟨(Nat.le_of_ble_eq_true rfl), (Nat.le_of_ble_eq_true rfl)⟩) hP hD hS hA [0, 1] [2, 3] rfl rfl (by decide +kernel) (by decide +kernel) (fun r56 u56 H locs hp hP hD hS => ?_)
    obtain ⟨h58, h59⟩ := u56
    have hp : (r56 = 0 ∧ True) := hp
    obtain rfl : r56 = 0 := hp.1
    have hP : va_P G cl [(a3, .inl (cB, 1300, .inl g_tp_bytes)), (a2, .inr (7, [.int v_M_0, .int v_M_1, .int v_M_2, .ref a4, .ref a5, .int v_M_5, .ref a6, .ref a7, .ref a8, .ref a9, .ref a10, .ref a11, .ref a12, .ref a13, .ref a14])), (a0, .inr (2, [.ref a1, .ref a2, .int v_rd_2, .int v_rd_3, .int v_rd_4, .int v_rd_5, .int h58, .int h59])), (a1, .inr (5, [.ref a3, .int v_tp_1, .int v_tp_2, .int v_tp_3, .int v_tp_4, .long w_tp_5, .int v_tp_6]))] H := hP
    have hD : va_D A [(a3, .inl (cB, 1300, .inl g_tp_bytes)), (a2, .inr (7, [.int v_M_0, .int v_M_1, .int v_M_2, .ref a4, .ref a5, .int v_M_5, .ref a6, .ref a7, .ref a8, .ref a9, .ref a10, .ref a11, .ref a12, .ref a13, .ref a14])), (a0, .inr (2, [.ref a1, .ref a2, .int v_rd_2, .int v_rd_3, .int v_rd_4, .int v_rd_5, .int h58, .int h59])), (a1, .inr (5, [.ref a3, .int v_tp_1, .int v_tp_2, .int v_tp_3, .int v_tp_4, .long w_tp_5, .int v_tp_6]))] := hD
    have hq56 := hp
    have l_l60 : (0 : Int32).toInt = 0 := rfl
    rw [← hQm]
    exact k_zret hC hr hlk hK hP hD hS (v_rd_2, v_rd_3, h58, h59, v_tp_2, v_tp_3, v_tp_4, w_tp_5, v_tp_6, v_M_0, v_M_1) [2, 3, 0, 1] rfl (by decide +kernel) rfl (show 0 ≤ (0 : Int32).toInt ∧ (0 : Int32).toInt ≤ 1 ∧ 1 ≤ v_rd_3.toInt ∧ v_rd_3.toInt ≤ 1 ∧ 0 ≤ v_tp_2.toInt ∧ v_tp_2.toInt ≤ 1300 ∧ 0 ≤ v_M_0.toInt ∧ v_M_0.toInt ≤ 110 ∧ 0 ≤ v_M_1.toInt ∧ v_M_1.toInt ≤ 110 from by omega) (Nat.le_of_ble_eq_true rfl) (Nat.le_of_ble_eq_true rfl) dX2_readArms_12

theorem dJ7_copyOf_c38d5_0 : decode cJ7_copyOf_c38d5 0 = .ok (.iload_n 1, 1) := by decide +kernel
theorem dJ7_copyOf_c38d5_1 : decode cJ7_copyOf_c38d5 1 = .ok (.aload_n 0, 1) := by decide +kernel
theorem dJ7_copyOf_c38d5_2 : decode cJ7_copyOf_c38d5 2 = .ok (.arraylength, 1) := by decide +kernel
theorem dJ7_copyOf_c38d5_3 : decode cJ7_copyOf_c38d5 3 = .ok (.if_icmp .ne 11, 3) := by decide +kernel
theorem dJ7_copyOf_c38d5_6 : decode cJ7_copyOf_c38d5 6 = .ok (.aload_n 0, 1) := by decide +kernel
theorem dJ7_copyOf_c38d5_7 : decode cJ7_copyOf_c38d5 7 = .ok (.invokevirtual 319, 3) := by decide +kernel
theorem dJ7_copyOf_c38d5_10 : decode cJ7_copyOf_c38d5 10 = .ok (.checkcast 320, 3) := by decide +kernel
theorem dJ7_copyOf_c38d5_13 : decode cJ7_copyOf_c38d5 13 = .ok (.areturn, 1) := by decide +kernel
theorem dJ7_copyOf_c38d5_14 : decode cJ7_copyOf_c38d5 14 = .ok (.iload_n 1, 1) := by decide +kernel
theorem dJ7_copyOf_c38d5_15 : decode cJ7_copyOf_c38d5 15 = .ok (.newarray .long, 2) := by decide +kernel
theorem dJ7_copyOf_c38d5_17 : decode cJ7_copyOf_c38d5 17 = .ok (.astore_n 2, 1) := by decide +kernel
theorem dJ7_copyOf_c38d5_18 : decode cJ7_copyOf_c38d5 18 = .ok (.aload_n 0, 1) := by decide +kernel
theorem dJ7_copyOf_c38d5_19 : decode cJ7_copyOf_c38d5 19 = .ok (.iconst 0, 1) := by decide +kernel
theorem dJ7_copyOf_c38d5_20 : decode cJ7_copyOf_c38d5 20 = .ok (.aload_n 2, 1) := by decide +kernel
theorem dJ7_copyOf_c38d5_21 : decode cJ7_copyOf_c38d5 21 = .ok (.iconst 0, 1) := by decide +kernel
theorem dJ7_copyOf_c38d5_22 : decode cJ7_copyOf_c38d5 22 = .ok (.aload_n 0, 1) := by decide +kernel
theorem dJ7_copyOf_c38d5_23 : decode cJ7_copyOf_c38d5 23 = .ok (.arraylength, 1) := by decide +kernel
theorem dJ7_copyOf_c38d5_24 : decode cJ7_copyOf_c38d5 24 = .ok (.iload_n 1, 1) := by decide +kernel
theorem dJ7_copyOf_c38d5_25 : decode cJ7_copyOf_c38d5 25 = .ok (.invokestatic 304, 3) := by decide +kernel
theorem dJ7_copyOf_c38d5_28 : decode cJ7_copyOf_c38d5 28 = .ok (.invokestatic 150, 3) := by decide +kernel
theorem dJ7_copyOf_c38d5_31 : decode cJ7_copyOf_c38d5 31 = .ok (.aload_n 2, 1) := by decide +kernel
theorem dJ7_copyOf_c38d5_32 : decode cJ7_copyOf_c38d5 32 = .ok (.areturn, 1) := by decide +kernel
set_option maxRecDepth 100000 in
theorem mi_J7_copyOf_c38d5 : MI yJ7_copyOf_c38d5 cJ7_copyOf_c38d5 3 (some (.array .long)) 2 := ⟨gm (List.mem_of_getElem? (i := 893) rfl) rfl, gm (List.mem_of_getElem? (i := 117) (by decide +kernel)) rfl, by decide, by decide, by decide +kernel⟩
set_option maxRecDepth 100000 in
theorem wm_CO_304 : Cond.methodLink RJ7 304 Lib.Math.min.name ∈ gw := gm (List.mem_of_getElem? (i := 901) (by decide +kernel)) rfl
set_option maxRecDepth 100000 in
theorem wm_CO_150 : Cond.methodLink RJ7 150 arraycopyName ∈ gw := gm (List.mem_of_getElem? (i := 902) (by decide +kernel)) rfl
set_option maxRecDepth 100000 in
theorem st_acp : Cond.static arraycopyName ∈ gw := gm (List.mem_of_getElem? (i := 903) (by decide +kernel)) rfl
set_option maxRecDepth 100000 in
theorem na_acp : Cond.native arraycopyName ∈ gw := gm (List.mem_of_getElem? (i := 904) (by decide +kernel)) rfl
set_option maxRecDepth 100000 in
theorem ini_Sys : Cond.initialized "java/lang/System" ∈ gw := gm (List.mem_of_getElem? (i := 126) (by decide +kernel)) rfl
set_option maxRecDepth 100000 in
theorem warr_J : Cond.arrayClass .long ∈ gw := gm (List.mem_of_getElem? (i := 186) (by decide +kernel)) rfl
set_option maxHeartbeats 4000000 in
set_option maxRecDepth 100000 in
theorem c_copyOf (l : Launch) (G : va_G) (cI cJ cB cZ : ClassId) (a0 n0 n1 : Nat) (f : Nat → Int64) (b1 : Int32) (h1 : b1.toInt = (n1 : Int)) (h2 : n0 < n1) (h3 : n1 ≤ 300000) : Con l G (TY cI cJ cB cZ) yJ7_copyOf_c38d5 cJ7_copyOf_c38d5 3 (some (.array .long)) ({ frames := 2, cells := 1, slots := n1, locals := 60 } : Room) [.ref a0, .int b1] [(a0, .inl (cJ, n0, .inr (.inl f)))] (QR G (TY cI cJ cB cZ) (fun _ : Nat × (Nat → Int64) => True) (fun u => u.1) (fun u => [(a0, .inl (cJ, n0, .inr (.inl f))), (u.1, .inl (cJ, n1, .inr (.inl u.2)))])) := by
  refine k_met (by decide) (Nat.le_of_ble_eq_true rfl) ?_
  intro p e s m below meth c A ls hC hr hlk hnm hN hZ hK hA hP hD hS hl
  have hl : lv_has ls 3 [(0, .ref a0), (1, .int b1)] := hl
  generalize hQm : MQ below _ _ s _ _ A = Qm
  generalize (List.toArray _ : Array Value) = args at hC hQm ⊢
  obtain ⟨hx, hb, hml, hown, hts⟩ := id hC
  obtain ⟨H, hH⟩ : ∃ q, q = s.heap := ⟨_, rfl⟩
  obtain ⟨locs, hlo⟩ : ∃ q : List Loc, q = [] := ⟨_, rfl⟩
  have hP : va_P G cl [(a0, .inl (cJ, n0, .inr (.inl f)))] H := by rw [hH]; exact hP
  have hS : va_S A s.heap H locs := by rw [hH, hlo]; exact hS
  rw [← hlo]
  rw [← hH]
  have hc := cl_of0 (x := b1) (by omega)
  have e0 : (Int32.ofNat n0).toInt = (n0 : Int) := ofNat_i (by omega)
  refine lv_iload_n hx hb dJ7_copyOf_c38d5_0 rfl (lv_at hl 1 rfl) ?_
  refine lv_aload_n hx hb dJ7_copyOf_c38d5_1 rfl (lv_at hl 0 rfl) ?_
  refine k_alen hC hK hP 0 1 (Int32.ofNat n0) rfl rfl rfl dJ7_copyOf_c38d5_2 ?_
  refine lv_icmp_ne (tgt := 14) hx hb dJ7_copyOf_c38d5_3 (by decide) (fun _ => ?_) (fun c1 => by have d1 := (fa_eq _ _).mp c1; omega)
  refine lv_iload_n hx hb dJ7_copyOf_c38d5_14 rfl (lv_at hl 1 rfl) ?_
  refine k_newa (atype := .long) (a0 := (n1, .inr (.inl (fun _ => 0)))) hx hb (hts _ warr_J) rfl 1 rfl (fun h => h) hK hP hD hS hA (fun _ => rfl) (fun q => by have q1 := (fa_lt _ _).mp q; have q2 : (0 : Int32).toInt = 0 := rfl; omega) (by omega) (by show n1 * 8 ≤ 536870912; omega) (Nat.le_refl _) (Nat.le_of_eq (Nat.zero_add _)) dJ7_copyOf_c38d5_15 (fun q1 H hP hD hS => ?_)
  refine lv_astore_n (lv' := [(2, .ref q1), (0, .ref a0), (1, .int b1)]) hx hb dJ7_copyOf_c38d5_17 rfl hl (by decide) rfl (fun ls hl => ?_)
  refine lv_aload_n hx hb dJ7_copyOf_c38d5_18 rfl (lv_at hl 1 rfl) ?_
  refine lv_iconst (v := 0) hx hb dJ7_copyOf_c38d5_19 (by decide) ?_
  refine lv_aload_n hx hb dJ7_copyOf_c38d5_20 rfl (lv_at hl 0 rfl) ?_
  refine lv_iconst (v := 0) hx hb dJ7_copyOf_c38d5_21 (by decide) ?_
  refine lv_aload_n hx hb dJ7_copyOf_c38d5_22 rfl (lv_at hl 1 rfl) ?_
  refine k_alen hC hK hP 0 1 (Int32.ofNat n0) rfl rfl rfl dJ7_copyOf_c38d5_23 ?_
  refine lv_iload_n hx hb dJ7_copyOf_c38d5_24 rfl (lv_at hl 2 rfl) ?_
  refine va_mmin hx hb (hml.trans hl.1.symm) hown (hts _ wm_CO_304) (hts _ st_Mmin) (hts _ ini_Math) (hts _ co_Mmin) (Nat.le_of_ble_eq_true rfl) (Nat.le_of_ble_eq_true rfl) (Nat.le_of_ble_eq_true rfl) (Nat.le_of_eq (Nat.zero_add _)) dJ7_copyOf_c38d5_25 ?_
  refine t_i (fun q => q.toInt ≤ (Int32.ofNat n0).toInt ∧ q.toInt ≤ b1.toInt ∧ (q.toInt = (Int32.ofNat n0).toInt ∨ q.toInt = b1.toInt)) (min_b _ _) (fun z tz => ?_)
  have hcz := cl_of0 (x := z) (by omega)
  have e00 : (0 : Int32).toNatClampNeg = 0 := rfl
  refine va_copyl hx hb (hml.trans hl.1.symm) hown (hts _ wm_CO_150) (hts _ na_acp) (hts _ st_acp) (hts _ ini_Sys) hK hP hD hS 0 1 1 1 rfl rfl rfl rfl rfl (by decide) (by decide) (fun q => by have q1 := (fa_lt _ _).mp q; have q2 : (0 : Int32).toInt = 0 := rfl; omega) (by rw [e00]; omega) (by rw [e00]; omega) (fun _ _ => rfl) (Nat.le_of_ble_eq_true rfl) (Nat.le_of_ble_eq_true rfl) dJ7_copyOf_c38d5_28 (fun H locs hP hD hS => ?_)
  generalize va_cpy _ _ _ _ _ = f2 at hP hD
  refine lv_aload_n hx hb dJ7_copyOf_c38d5_31 rfl (lv_at hl 0 rfl) ?_
  rw [← hQm]
  exact k_aret hC hr (Or.inr ⟨_, rfl⟩) hlk hK hP hD hS (q1, f2) [0, 1] rfl (by decide) trivial (Nat.le_refl _) (Nat.le_of_eq (Nat.zero_add _)) dJ7_copyOf_c38d5_32
set_option maxHeartbeats 4000000 in
set_option maxRecDepth 100000 in
theorem c142_X7_ways (l : Launch) (G : va_G) (cI cJ cB cZ : ClassId) (a0 a1 a2 a3 a4 a5 a6 a7 a8 a9 a10 a11 : Nat) (v_V_0 : Int32) (v_V_1 : Int32) (v_V_2 : Int32) (v_V_5 : Int32) (g_V_poundLow : Nat → Int32) (g_V_poundHigh : Nat → Int32) (g_V_off : Nat → Int32) (hv_0 : 0 ≤ v_V_0.toInt) (hv_1 : v_V_0.toInt ≤ 110) (hv_2 : 0 ≤ v_V_1.toInt) (hv_3 : v_V_1.toInt ≤ 110) (hv_4 : 0 ≤ v_V_5.toInt) (hv_5 : v_V_5.toInt ≤ 6) (hv_6 : (v_V_0.toInt ≤ v_V_1.toInt)) (hv_7 : (v_V_1.toInt ≤ v_V_0.toInt + 6)) (hT_g_V_poundLow : TA 0 40 g_V_poundLow) (hT_g_V_poundHigh : TA 0 40 g_V_poundHigh) (hT_g_V_off : TA 0 4 g_V_off) (hPB : PB g_V_poundLow g_V_poundHigh) : Con l G (TY cI cJ cB cZ) yX7_ways cX7_ways 3 (some .int) ({ frames := 0, cells := 0, slots := 0, locals := 0 } : Room) [.ref a0] [(a0, .inr (7, [.int v_V_0, .int v_V_1, .int v_V_2, .ref a1, .ref a2, .int v_V_5, .ref a3, .ref a4, .ref a5, .ref a6, .ref a7, .ref a8, .ref a9, .ref a10, .ref a11])), (a1, .inl (cI, 2, .inl g_V_poundLow)), (a2, .inl (cI, 2, .inl g_V_poundHigh)), (a6, .inl (cI, 6, .inl g_V_off))] (QI G (TY cI cJ cB cZ) (fun (r : Int32) (u : Unit) => (0 ≤ r.toInt ∧ r.toInt ≤ 2147483646) ∧ ((r : Int32).toInt = (((v_V_1 : Int32).toInt - (v_V_0 : Int32).toInt + 1) * (gI g_V_poundHigh 0 - gI g_V_poundLow 0 + 1) * (gI g_V_poundHigh 1 - gI g_V_poundLow 1 + 1)) * KKf g_V_off (v_V_5 : Int32).toInt 6)) (fun u : Unit => [(a0, .inr (7, [.int v_V_0, .int v_V_1, .int v_V_2, .ref a1, .ref a2, .int v_V_5, .ref a3, .ref a4, .ref a5, .ref a6, .ref a7, .ref a8, .ref a9, .ref a10, .ref a11])), (a1, .inl (cI, 2, .inl g_V_poundLow)), (a2, .inl (cI, 2, .inl g_V_poundHigh)), (a6, .inl (cI, 6, .inl g_V_off))])) := by
  refine k_met (by decide) (Nat.le_of_ble_eq_true rfl) ?_
  intro p e s m below meth c A ls hC hr hlk hnm hN hZ hK hA hP hD hS hl
  have hl : lv_has ls 3 [(0, .ref a0)] := hl
  generalize hQm : MQ below _ _ s _ _ A = Qm
  generalize (List.toArray _ : Array Value) = args at hC hQm ⊢
  obtain ⟨hx, hb, hml, hown, hts⟩ := id hC
  obtain ⟨H, hH⟩ : ∃ q, q = s.heap := ⟨_, rfl⟩
  obtain ⟨locs, hlo⟩ : ∃ q : List Loc, q = [] := ⟨_, rfl⟩
  have hP : va_P G cl [(a0, .inr (7, [.int v_V_0, .int v_V_1, .int v_V_2, .ref a1, .ref a2, .int v_V_5, .ref a3, .ref a4, .ref a5, .ref a6, .ref a7, .ref a8, .ref a9, .ref a10, .ref a11])), (a1, .inl (cI, 2, .inl g_V_poundLow)), (a2, .inl (cI, 2, .inl g_V_poundHigh)), (a6, .inl (cI, 6, .inl g_V_off))] H := by rw [hH]; exact hP
  have hS : va_S A s.heap H locs := by rw [hH, hlo]; exact hS
  rw [← hlo]
  rw [← hH]
  refine lv_aload_n hx hb dX7_ways_0 rfl (lv_at hl 0 rfl) ?_
  refine k_get hC hK hP iX7 0 1 wf_X7_63 rfl (by decide) rfl rfl dX7_ways_1 ?_
  refine lv_aload_n hx hb dX7_ways_4 rfl (lv_at hl 0 rfl) ?_
  refine k_get hC hK hP iX7 0 0 wf_X7_59 rfl (by decide) rfl rfl dX7_ways_5 ?_
  refine lv_isub hx hb dX7_ways_8 ?_
  refine t_i (fun q => q.toInt = v_V_1.toInt - v_V_0.toInt) (sub_i (by show (-2147483648 : Int) ≤ v_V_1.toInt - v_V_0.toInt; omega) (by show v_V_1.toInt - v_V_0.toInt ≤ (2147483647 : Int); omega)) (fun z1 tz1 => ?_)
  refine lv_iconst (v := 1) hx hb dX7_ways_9 (by decide) ?_
  refine lv_iadd hx hb dX7_ways_10 ?_
  refine t_i (fun q => q.toInt = z1.toInt + 1) (add_i (by show (-2147483648 : Int) ≤ z1.toInt + 1; omega) (by show z1.toInt + 1 ≤ (2147483647 : Int); omega)) (fun z2 tz2 => ?_)
  have as3 : 1 ≤ z2.toInt ∧ z2.toInt ≤ 7 := by omega
  refine lv_istore_n (lv' := [(1, .int z2), (0, .ref a0)]) hx hb dX7_ways_11 rfl hl (by decide) rfl (fun ls hl => ?_)
  obtain ⟨aw_, haw_⟩ : ∃ q : Int32, q = z2 := ⟨_, rfl⟩
  refine lv_iconst (v := 0) hx hb dX7_ways_12 (by decide) ?_
  refine lv_istore_n (lv' := [(2, .int 0), (1, .int z2), (0, .ref a0)]) hx hb dX7_ways_13 rfl hl (by decide) rfl (fun ls hl => ?_)
  refine lv_iload_n hx hb dX7_ways_14 rfl (lv_at hl 0 rfl) ?_
  refine lv_iconst (v := 2) hx hb dX7_ways_15 (by decide) ?_
  refine lv_icmp_ge (tgt := 43) hx hb dX7_ways_16 (by decide) (fun c_ => absurd c_ (by decide +kernel)) (fun _ => ?_)
  refine lv_iload_n hx hb dX7_ways_19 rfl (lv_at hl 1 rfl) ?_
  refine lv_aload_n hx hb dX7_ways_20 rfl (lv_at hl 2 rfl) ?_
  refine k_get hC hK hP iX7 0 4 wf_X7_15 rfl (by decide) rfl rfl dX7_ways_21 ?_
  refine lv_iload_n hx hb dX7_ways_24 rfl (lv_at hl 0 rfl) ?_
  refine t_ialdX hC hK hP 2 rfl (by decide) (by decide) hT_g_V_poundHigh dX7_ways_25 (fun z4 tz4 ex_25 => ?_)
  refine lv_aload_n hx hb dX7_ways_26 rfl (lv_at hl 2 rfl) ?_
  refine k_get hC hK hP iX7 0 3 wf_X7_9 rfl (by decide) rfl rfl dX7_ways_27 ?_
  refine lv_iload_n hx hb dX7_ways_30 rfl (lv_at hl 0 rfl) ?_
  refine t_ialdX hC hK hP 1 rfl (by decide) (by decide) hT_g_V_poundLow dX7_ways_31 (fun z5 tz5 ex_31 => ?_)
  refine lv_isub hx hb dX7_ways_32 ?_
  refine t_i (fun q => q.toInt = z4.toInt - z5.toInt) (sub_i (by show (-2147483648 : Int) ≤ z4.toInt - z5.toInt; omega) (by show z4.toInt - z5.toInt ≤ (2147483647 : Int); omega)) (fun z6 tz6 => ?_)
  refine lv_iconst (v := 1) hx hb dX7_ways_33 (by decide) ?_
  refine lv_iadd hx hb dX7_ways_34 ?_
  refine t_i (fun q => q.toInt = z6.toInt + 1) (add_i (by show (-2147483648 : Int) ≤ z6.toInt + 1; omega) (by show z6.toInt + 1 ≤ (2147483647 : Int); omega)) (fun z7 tz7 => ?_)
  have pw0 : z7.toInt = gI g_V_poundHigh 0 - gI g_V_poundLow 0 + 1 := by have a_ := ex_25 0 rfl; have b_ := ex_31 0 rfl; omega
  have pb0 := hPB 0 (by decide) (by decide)
  have as8 : 1 ≤ z7.toInt ∧ z7.toInt ≤ 5 := by omega
  refine lv_imul hx hb dX7_ways_35 ?_
  refine t_i (fun q => q.toInt = z2.toInt * z7.toInt ∧ 0 ≤ q.toInt ∧ q.toInt ≤ 35) (by have h_ := (mul_bd (X := z2.toInt) (Y := z7.toInt) (a := 7) (b := 5) (by omega) (by omega) (by omega) (by omega)); rw [mul_i (by omega) (by omega)]; exact ⟨rfl, by omega, by omega⟩) (fun z9 tz9 => ?_)
  have ar_35 := tz9
  have pm0 := ar_35.1
  refine lv_istore_n (lv' := [(1, .int z9), (2, .int 0), (0, .ref a0)]) hx hb dX7_ways_36 rfl hl (by decide) rfl (fun ls hl => ?_)
  refine lv_iinc (v := 1) (lv' := [(2, .int 1), (1, .int z9), (0, .ref a0)]) hx hb dX7_ways_37 hl (k := 1) rfl (by decide +kernel) (by decide) rfl (fun ls hl => ?_)
  refine lv_goto (tgt := 14) hx hb dX7_ways_40 (by decide) ?_
  refine lv_iload_n hx hb dX7_ways_14 rfl (lv_at hl 0 rfl) ?_
  refine lv_iconst (v := 2) hx hb dX7_ways_15 (by decide) ?_
  refine lv_icmp_ge (tgt := 43) hx hb dX7_ways_16 (by decide) (fun c_ => absurd c_ (by decide +kernel)) (fun _ => ?_)
  refine lv_iload_n hx hb dX7_ways_19 rfl (lv_at hl 1 rfl) ?_
  refine lv_aload_n hx hb dX7_ways_20 rfl (lv_at hl 2 rfl) ?_
  refine k_get hC hK hP iX7 0 4 wf_X7_15 rfl (by decide) rfl rfl dX7_ways_21 ?_
  refine lv_iload_n hx hb dX7_ways_24 rfl (lv_at hl 0 rfl) ?_
  refine t_ialdX hC hK hP 2 rfl (by decide) (by decide) hT_g_V_poundHigh dX7_ways_25 (fun z10 tz10 ex_25 => ?_)
  refine lv_aload_n hx hb dX7_ways_26 rfl (lv_at hl 2 rfl) ?_
  refine k_get hC hK hP iX7 0 3 wf_X7_9 rfl (by decide) rfl rfl dX7_ways_27 ?_
  refine lv_iload_n hx hb dX7_ways_30 rfl (lv_at hl 0 rfl) ?_
  refine t_ialdX hC hK hP 1 rfl (by decide) (by decide) hT_g_V_poundLow dX7_ways_31 (fun z11 tz11 ex_31 => ?_)
  refine lv_isub hx hb dX7_ways_32 ?_
  refine t_i (fun q => q.toInt = z10.toInt - z11.toInt) (sub_i (by show (-2147483648 : Int) ≤ z10.toInt - z11.toInt; omega) (by show z10.toInt - z11.toInt ≤ (2147483647 : Int); omega)) (fun z12 tz12 => ?_)
  refine lv_iconst (v := 1) hx hb dX7_ways_33 (by decide) ?_
  refine lv_iadd hx hb dX7_ways_34 ?_
  refine t_i (fun q => q.toInt = z12.toInt + 1) (add_i (by show (-2147483648 : Int) ≤ z12.toInt + 1; omega) (by show z12.toInt + 1 ≤ (2147483647 : Int); omega)) (fun z13 tz13 => ?_)
  have pw1 : z13.toInt = gI g_V_poundHigh 1 - gI g_V_poundLow 1 + 1 := by have a_ := ex_25 1 rfl; have b_ := ex_31 1 rfl; omega
  have pb1 := hPB 1 (by decide) (by decide)
  have as14 : 1 ≤ z13.toInt ∧ z13.toInt ≤ 5 := by omega
  refine lv_imul hx hb dX7_ways_35 ?_
  refine t_i (fun q => q.toInt = z9.toInt * z13.toInt ∧ 0 ≤ q.toInt ∧ q.toInt ≤ 175) (by have h_ := (mul_bd (X := z9.toInt) (Y := z13.toInt) (a := 35) (b := 5) (by omega) (by omega) (by omega) (by omega)); rw [mul_i (by omega) (by omega)]; exact ⟨rfl, by omega, by omega⟩) (fun z15 tz15 => ?_)
  have ar_35 := tz15
  have pm1 := ar_35.1
  refine lv_istore_n (lv' := [(1, .int z15), (2, .int 1), (0, .ref a0)]) hx hb dX7_ways_36 rfl hl (by decide) rfl (fun ls hl => ?_)
  refine lv_iinc (v := 2) (lv' := [(2, .int 2), (1, .int z15), (0, .ref a0)]) hx hb dX7_ways_37 hl (k := 1) rfl (by decide +kernel) (by decide) rfl (fun ls hl => ?_)
  refine lv_goto (tgt := 14) hx hb dX7_ways_40 (by decide) ?_
  refine lv_iload_n hx hb dX7_ways_14 rfl (lv_at hl 0 rfl) ?_
  refine lv_iconst (v := 2) hx hb dX7_ways_15 (by decide) ?_
  refine lv_icmp_ge (tgt := 43) hx hb dX7_ways_16 (by decide) (fun _ => ?_) (fun c_ => absurd (by decide +kernel) c_)
  refine lv_iconst (v := 0) hx hb dX7_ways_43 (by decide) ?_
  refine lv_istore_n (lv' := [(2, .int 0), (1, .int z15), (0, .ref a0)]) hx hb dX7_ways_44 rfl hl (by decide) rfl (fun ls hl => ?_)
  have L_45 : ∀ (n : Nat) (x16 : Int32) (x17 : Int32) (H : Heap) (locs : List Loc) (ls : Array Slot), (0 ≤ x16.toInt ∧ x16.toInt ≤ 6 ∧ 0 ≤ x17.toInt ∧ x17.toInt ≤ 2147483646 ∧ (x16.toInt ≤ v_V_5.toInt)) → 6 - x16.toInt < (n : Int) → (WY g_V_off (v_V_5 : Int32).toInt (((v_V_1 : Int32).toInt - (v_V_0 : Int32).toInt + 1) * (gI g_V_poundHigh 0 - gI g_V_poundLow 0 + 1) * (gI g_V_poundHigh 1 - gI g_V_poundLow 1 + 1)) x16 x17) → va_P G cl [(a0, .inr (7, [.int v_V_0, .int v_V_1, .int v_V_2, .ref a1, .ref a2, .int v_V_5, .ref a3, .ref a4, .ref a5, .ref a6, .ref a7, .ref a8, .ref a9, .ref a10, .ref a11])), (a1, .inl (cI, 2, .inl g_V_poundLow)), (a2, .inl (cI, 2, .inl g_V_poundHigh)), (a6, .inl (cI, 6, .inl g_V_off))] H → va_D A [(a0, .inr (7, [.int v_V_0, .int v_V_1, .int v_V_2, .ref a1, .ref a2, .int v_V_5, .ref a3, .ref a4, .ref a5, .ref a6, .ref a7, .ref a8, .ref a9, .ref a10, .ref a11])), (a1, .inl (cI, 2, .inl g_V_poundLow)), (a2, .inl (cI, 2, .inl g_V_poundHigh)), (a6, .inl (cI, 6, .inl g_V_off))] → va_S A s.heap H locs → lv_has ls 3 [(0, .ref a0), (1, .int x17), (2, .int x16)] → W p l e ({ frames := 0, cells := 0, slots := 0, locals := 0 } : Room) s m args below meth c H locs 0 0 Qm (F0 m 45 ls []) := by
    intro n
    induction n with
    | zero => intro x16 x17 H locs ls hv hm; omega
    | succ n ih =>
      intro x16 x17 H locs ls hv hm hWY hP hD hS hl
      refine lv_iload_n hx hb dX7_ways_45 rfl (lv_at hl 2 rfl) ?_
      refine lv_aload_n hx hb dX7_ways_46 rfl (lv_at hl 0 rfl) ?_
      refine k_get hC hK hP iX7 0 5 wf_X7_75 rfl (by decide) rfl rfl dX7_ways_47 ?_
      refine lv_icmp_ge (tgt := 72) hx hb dX7_ways_50 (by decide) (fun c18 => ?_) (fun c18 => ?_)
      · have dc18 : v_V_5.toInt ≤ x16.toInt := (fa_le _ _).mp c18
        refine lv_iload_n hx hb dX7_ways_72 rfl (lv_at hl 1 rfl) ?_
        rw [← hQm]
        exact k_iret hC hr hlk hK hP hD hS () [0, 1, 2, 3] rfl (by decide +kernel) ⟨(show 0 ≤ x17.toInt ∧ x17.toInt ≤ 2147483646 from by omega), (show (x17 : Int32).toInt = (((v_V_1 : Int32).toInt - (v_V_0 : Int32).toInt + 1) * (gI g_V_poundHigh 0 - gI g_V_poundLow 0 + 1) * (gI g_V_poundHigh 1 - gI g_V_poundLow 1 + 1)) * KKf g_V_off (v_V_5 : Int32).toInt 6 from by exact WY.fin hWY (by omega) (by omega))⟩ (Nat.le_of_ble_eq_true rfl) (Nat.le_of_ble_eq_true rfl) dX7_ways_73
      · have dc18 : x16.toInt < v_V_5.toInt := fa_nle c18
        refine lv_iload_n hx hb dX7_ways_53 rfl (lv_at hl 1 rfl) ?_
        refine lv_iconst (v := 2) hx hb dX7_ways_54 (by decide) ?_
        refine lv_aload_n hx hb dX7_ways_55 rfl (lv_at hl 0 rfl) ?_
        refine k_get hC hK hP iX7 0 9 wf_X7_28 rfl (by decide) rfl rfl dX7_ways_56 ?_
        refine lv_iload_n hx hb dX7_ways_59 rfl (lv_at hl 2 rfl) ?_
        refine t_ialdX hC hK hP 3 rfl (by omega) (by omega) hT_g_V_off dX7_ways_60 (fun z19 tz19 ex_60 => ?_)
        refine lv_imul hx hb dX7_ways_61 ?_
        refine t_i (fun q => q.toInt = 2 * z19.toInt) (mul_i (by show (-2147483648 : Int) ≤ 2 * z19.toInt; omega) (by show 2 * z19.toInt ≤ (2147483647 : Int); omega)) (fun z20 tz20 => ?_)
        refine lv_iconst (v := 1) hx hb dX7_ways_62 (by decide) ?_
        refine lv_iadd hx hb dX7_ways_63 ?_
        refine t_i (fun q => q.toInt = z20.toInt + 1) (add_i (by show (-2147483648 : Int) ≤ z20.toInt + 1; omega) (by show z20.toInt + 1 ≤ (2147483647 : Int); omega)) (fun z21 tz21 => ?_)
        have hw_ : z21.toInt = 2 * gI g_V_off x16.toInt + 1 := by have a_ := ex_60 _ rfl; omega
        have bd_ := hWY.bd (by omega) (by omega)
        have as22 : 1 ≤ x17.toInt ∧ x17.toInt ≤ 10333575 := by omega
        refine lv_imul hx hb dX7_ways_64 ?_
        refine t_i (fun q => q.toInt = x17.toInt * z21.toInt ∧ 0 ≤ q.toInt ∧ q.toInt ≤ 93002175) (by have h_ := (mul_bd (X := x17.toInt) (Y := z21.toInt) (a := 10333575) (b := 9) (by omega) (by omega) (by omega) (by omega)); rw [mul_i (by omega) (by omega)]; exact ⟨rfl, by omega, by omega⟩) (fun z23 tz23 => ?_)
        have ar_64 := tz23
        refine lv_istore_n (lv' := [(1, .int z23), (0, .ref a0), (2, .int x16)]) hx hb dX7_ways_65 rfl hl (by decide) rfl (fun ls hl => ?_)
        obtain ⟨z24, ez24⟩ : ∃ q : Int32, q = x16 + Int32.ofInt 1 := ⟨_, rfl⟩
        have tz24 : z24.toInt = x16.toInt + 1 := by rw [ez24]; exact add_i (y := 1) (by have p_ := i_lo x16; show _ ≤ _ + (1 : Int); omega) (by have q_ := i_hi x16; show _ + (1 : Int) ≤ _; omega)
        refine lv_iinc (v := z24) (lv' := [(2, .int z24), (1, .int z23), (0, .ref a0)]) hx hb dX7_ways_66 hl (k := 2) rfl ez24.symm (by decide) rfl (fun ls hl => ?_)
        refine lv_goto (tgt := 45) hx hb dX7_ways_69 (by decide) ?_
        exact ih  z24 z23 H locs ls (by omega) (by omega) (by exact WY.step hT_g_V_off hWY (by omega) (by omega) (by omega) hw_ ar_64.1 (by omega)) (hP.subm [0, 1, 2, 3] rfl) (hD.sub [0, 1, 2, 3] (by decide +kernel) rfl) hS (lv_sub hl [2, 1, 0] rfl)
  have l_l25 : (0 : Int32).toInt = 0 := rfl
  exact L_45 7 0 z15 H locs ls (by omega) (by omega) (by exact WY.start (by omega) pw0 pw1 (by omega) (by omega) (by omega) pm0 pm1 rfl) (hP.subm [0, 1, 2, 3] rfl) (hD.sub [0, 1, 2, 3] (by decide +kernel) rfl) hS (lv_sub hl [2, 1, 0] rfl)
theorem dX0_isOf_0 : decode cX0_isOf 0 = .ok (.aload_n 0, 1) := by decide +kernel
theorem dX0_isOf_1 : decode cX0_isOf 1 = .ok (.getfield 19, 3) := by decide +kernel
set_option maxRecDepth 100000 in
theorem wf_X0_19 : Cond.fieldLink RX0 19 "StoneTrust$Fits" "any" "Z" ∈ gw := gm (List.mem_of_getElem? (i := 387) (by decide +kernel)) rfl
theorem dX0_isOf_4 : decode cX0_isOf 4 = .ok (.ifCond .eq 16, 3) := by decide +kernel
theorem dX0_isOf_20 : decode cX0_isOf 20 = .ok (.iconst 0, 1) := by decide +kernel
theorem dX0_isOf_21 : decode cX0_isOf 21 = .ok (.ireturn, 1) := by decide +kernel
theorem dX0_isOf_7 : decode cX0_isOf 7 = .ok (.aload_n 0, 1) := by decide +kernel
theorem dX0_isOf_8 : decode cX0_isOf 8 = .ok (.getfield 23, 3) := by decide +kernel
set_option maxRecDepth 100000 in
theorem wf_X0_23 : Cond.fieldLink RX0 23 "StoneTrust$Fits" "key" "J" ∈ gw := gm (List.mem_of_getElem? (i := 388) (by decide +kernel)) rfl
theorem dX0_isOf_11 : decode cX0_isOf 11 = .ok (.lload_n 1, 1) := by decide +kernel
theorem dX0_isOf_12 : decode cX0_isOf 12 = .ok (.lcmp, 1) := by decide +kernel
theorem dX0_isOf_13 : decode cX0_isOf 13 = .ok (.ifCond .ne 7, 3) := by decide +kernel
theorem dX0_isOf_16 : decode cX0_isOf 16 = .ok (.iconst 1, 1) := by decide +kernel
theorem dX0_isOf_17 : decode cX0_isOf 17 = .ok (.goto 4, 3) := by decide +kernel
set_option maxHeartbeats 4000000 in
set_option maxRecDepth 100000 in
theorem c143_X0_isOf (l : Launch) (G : va_G) (cI cJ cB cZ : ClassId) (a0 a1 : Nat) (b1 : Int64) (v_fo_1 : Int32) (v_fo_2 : Int32) (w_fo_3 : Int64) (v_fo_4 : Int32) (v_fo_5 : Int32) (w_fo_6 : Int64) (hv_0 : 0 ≤ v_fo_1.toInt) (hv_1 : v_fo_1.toInt ≤ 300000) (hv_2 : 0 ≤ v_fo_2.toInt) (hv_3 : v_fo_2.toInt ≤ 1) (hv_4 : 0 ≤ v_fo_5.toInt) (hv_5 : v_fo_5.toInt ≤ 1) : Con l G (TY cI cJ cB cZ) yX0_isOf cX0_isOf 3 (some .boolean) ({ frames := 0, cells := 0, slots := 0, locals := 0 } : Room) [.ref a0, .long b1] [(a0, .inr (0, [.ref a1, .int v_fo_1, .int v_fo_2, .long w_fo_3, .int v_fo_4, .int v_fo_5, .long w_fo_6]))] (QI G (TY cI cJ cB cZ) (fun (r : Int32) (u : Unit) => (0 ≤ r.toInt ∧ r.toInt ≤ 1)) (fun u : Unit => [(a0, .inr (0, [.ref a1, .int v_fo_1, .int v_fo_2, .long w_fo_3, .int v_fo_4, .int v_fo_5, .long w_fo_6]))])) := by
  refine k_met (by decide) (Nat.le_of_ble_eq_true rfl) ?_
  intro p e s m below meth c A ls hC hr hlk hnm hN hZ hK hA hP hD hS hl
  have hl : lv_has ls 3 [(0, .ref a0), (1, .long b1)] := hl
  generalize hQm : MQ below _ _ s _ _ A = Qm
  generalize (List.toArray _ : Array Value) = args at hC hQm ⊢
  obtain ⟨hx, hb, hml, hown, hts⟩ := id hC
  obtain ⟨H, hH⟩ : ∃ q, q = s.heap := ⟨_, rfl⟩
  obtain ⟨locs, hlo⟩ : ∃ q : List Loc, q = [] := ⟨_, rfl⟩
  have hP : va_P G cl [(a0, .inr (0, [.ref a1, .int v_fo_1, .int v_fo_2, .long w_fo_3, .int v_fo_4, .int v_fo_5, .long w_fo_6]))] H := by rw [hH]; exact hP
  have hS : va_S A s.heap H locs := by rw [hH, hlo]; exact hS
  rw [← hlo]
  rw [← hH]
  refine lv_aload_n hx hb dX0_isOf_0 rfl (lv_at hl 0 rfl) ?_
  refine k_get hC hK hP iX0 0 2 wf_X0_19 rfl (by decide) rfl rfl dX0_isOf_1 ?_
  refine lv_if_eq (tgt := 20) hx hb dX0_isOf_4 (by decide) (fun c1 => ?_) (fun c1 => ?_)
  · have dc1 : v_fo_2.toInt = 0 := (fa_eq _ _).mp c1
    refine lv_iconst (v := 0) hx hb dX0_isOf_20 (by decide) ?_
    have l_l2 : (0 : Int32).toInt = 0 := rfl
    rw [← hQm]
    exact k_zret hC hr hlk hK hP hD hS () [0] rfl (by decide +kernel) rfl (show 0 ≤ (0 : Int32).toInt ∧ (0 : Int32).toInt ≤ 1 from by omega) (Nat.le_of_ble_eq_true rfl) (Nat.le_of_ble_eq_true rfl) dX0_isOf_21
  · have dc1 : v_fo_2.toInt ≠ 0 := fa_ne c1
    refine lv_aload_n hx hb dX0_isOf_7 rfl (lv_at hl 0 rfl) ?_
    refine k_get hC hK hP iX0 0 3 wf_X0_23 rfl (by decide) rfl rfl dX0_isOf_8 ?_
    refine lv_lload_n hx hb dX0_isOf_11 rfl (lv_at hl 1 rfl) ?_
    refine W.lcmp hx hb dX0_isOf_12 ?_
    refine lv_topi (fun z3 _ => ?_)
    refine lv_if_ne (tgt := 20) hx hb dX0_isOf_13 (by decide) (fun c4 => ?_) (fun c4 => ?_)
    · have dc4 : z3.toInt ≠ 0 := fa_ne c4; have lbc4_0 := i_lo z3; have ubc4_0 := i_hi z3
      refine lv_iconst (v := 0) hx hb dX0_isOf_20 (by decide) ?_
      have l_l5 : (0 : Int32).toInt = 0 := rfl
      rw [← hQm]
      exact k_zret hC hr hlk hK hP hD hS () [0] rfl (by decide +kernel) rfl (show 0 ≤ (0 : Int32).toInt ∧ (0 : Int32).toInt ≤ 1 from by omega) (Nat.le_of_ble_eq_true rfl) (Nat.le_of_ble_eq_true rfl) dX0_isOf_21
    · have dc4 : z3.toInt = 0 := (fa_eq _ _).mp c4; have lbc4_0 := i_lo z3; have ubc4_0 := i_hi z3
      refine lv_iconst (v := 1) hx hb dX0_isOf_16 (by decide) ?_
      refine lv_goto (tgt := 21) hx hb dX0_isOf_17 (by decide) ?_
      have l_l6 : (1 : Int32).toInt = 1 := rfl
      rw [← hQm]
      exact k_zret hC hr hlk hK hP hD hS () [0] rfl (by decide +kernel) rfl (show 0 ≤ (1 : Int32).toInt ∧ (1 : Int32).toInt ≤ 1 from by omega) (Nat.le_of_ble_eq_true rfl) (Nat.le_of_ble_eq_true rfl) dX0_isOf_21
theorem dX0_restart_0 : decode cX0_restart 0 = .ok (.aload_n 0, 1) := by decide +kernel
theorem dX0_restart_1 : decode cX0_restart 1 = .ok (.iconst 1, 1) := by decide +kernel
theorem dX0_restart_2 : decode cX0_restart 2 = .ok (.putfield 19, 3) := by decide +kernel
theorem dX0_restart_5 : decode cX0_restart 5 = .ok (.aload_n 0, 1) := by decide +kernel
theorem dX0_restart_6 : decode cX0_restart 6 = .ok (.lload_n 1, 1) := by decide +kernel
theorem dX0_restart_7 : decode cX0_restart 7 = .ok (.putfield 23, 3) := by decide +kernel
theorem dX0_restart_10 : decode cX0_restart 10 = .ok (.aload_n 0, 1) := by decide +kernel
theorem dX0_restart_11 : decode cX0_restart 11 = .ok (.iconst 0, 1) := by decide +kernel
theorem dX0_restart_12 : decode cX0_restart 12 = .ok (.putfield 15, 3) := by decide +kernel
set_option maxRecDepth 100000 in
theorem wf_X0_15 : Cond.fieldLink RX0 15 "StoneTrust$Fits" "size" "I" ∈ gw := gm (List.mem_of_getElem? (i := 384) (by decide +kernel)) rfl
theorem dX0_restart_15 : decode cX0_restart 15 = .ok (.aload_n 0, 1) := by decide +kernel
theorem dX0_restart_16 : decode cX0_restart 16 = .ok (.dup, 1) := by decide +kernel
theorem dX0_restart_17 : decode cX0_restart 17 = .ok (.getfield 27, 3) := by decide +kernel
set_option maxRecDepth 100000 in
theorem wf_X0_27 : Cond.fieldLink RX0 27 "StoneTrust$Fits" "stamp" "I" ∈ gw := gm (List.mem_of_getElem? (i := 389) (by decide +kernel)) rfl
theorem dX0_restart_20 : decode cX0_restart 20 = .ok (.iconst 1, 1) := by decide +kernel
theorem dX0_restart_21 : decode cX0_restart 21 = .ok (.iadd, 1) := by decide +kernel
theorem dX0_restart_22 : decode cX0_restart 22 = .ok (.putfield 27, 3) := by decide +kernel
theorem dX0_restart_25 : decode cX0_restart 25 = .ok (.aload_n 0, 1) := by decide +kernel
theorem dX0_restart_26 : decode cX0_restart 26 = .ok (.iconst 0, 1) := by decide +kernel
theorem dX0_restart_27 : decode cX0_restart 27 = .ok (.putfield 30, 3) := by decide +kernel
set_option maxRecDepth 100000 in
theorem wf_X0_30 : Cond.fieldLink RX0 30 "StoneTrust$Fits" "liarsKnown" "Z" ∈ gw := gm (List.mem_of_getElem? (i := 391) (by decide +kernel)) rfl
theorem dX0_restart_30 : decode cX0_restart 30 = .ok (.return_, 1) := by decide +kernel
set_option maxHeartbeats 4000000 in
set_option maxRecDepth 100000 in
theorem c144_X0_restart (l : Launch) (G : va_G) (cI cJ cB cZ : ClassId) (a0 a1 : Nat) (b1 : Int64) (v_fo_1 : Int32) (v_fo_2 : Int32) (w_fo_3 : Int64) (v_fo_4 : Int32) (v_fo_5 : Int32) (w_fo_6 : Int64) (hv_0 : 0 ≤ v_fo_1.toInt) (hv_1 : v_fo_1.toInt ≤ 300000) (hv_2 : 0 ≤ v_fo_2.toInt) (hv_3 : v_fo_2.toInt ≤ 1) (hv_4 : 0 ≤ v_fo_5.toInt) (hv_5 : v_fo_5.toInt ≤ 1) : Con l G (TY cI cJ cB cZ) yX0_restart cX0_restart 3 none ({ frames := 0, cells := 0, slots := 0, locals := 0 } : Room) [.ref a0, .long b1] [(a0, .inr (0, [.ref a1, .int v_fo_1, .int v_fo_2, .long w_fo_3, .int v_fo_4, .int v_fo_5, .long w_fo_6]))] (QV G (TY cI cJ cB cZ) (fun u : Int32 × Int32 × Int64 × Int32 × Int32 => (0 ≤ u.1.toInt ∧ u.1.toInt ≤ 0 ∧ 1 ≤ u.2.1.toInt ∧ u.2.1.toInt ≤ 1 ∧ 0 ≤ u.2.2.2.2.toInt ∧ u.2.2.2.2.toInt ≤ 0)) (fun u : Int32 × Int32 × Int64 × Int32 × Int32 => [(a0, .inr (0, [.ref a1, .int u.1, .int u.2.1, .long u.2.2.1, .int u.2.2.2.1, .int u.2.2.2.2, .long w_fo_6]))])) := by
  refine k_met (by decide) (Nat.le_of_ble_eq_true rfl) ?_
  intro p e s m below meth c A ls hC hr hlk hnm hN hZ hK hA hP hD hS hl
  have hl : lv_has ls 3 [(0, .ref a0), (1, .long b1)] := hl
  generalize hQm : MQ below _ _ s _ _ A = Qm
  generalize (List.toArray _ : Array Value) = args at hC hQm ⊢
  obtain ⟨hx, hb, hml, hown, hts⟩ := id hC
  obtain ⟨H, hH⟩ : ∃ q, q = s.heap := ⟨_, rfl⟩
  obtain ⟨locs, hlo⟩ : ∃ q : List Loc, q = [] := ⟨_, rfl⟩
  have hP : va_P G cl [(a0, .inr (0, [.ref a1, .int v_fo_1, .int v_fo_2, .long w_fo_3, .int v_fo_4, .int v_fo_5, .long w_fo_6]))] H := by rw [hH]; exact hP
  have hS : va_S A s.heap H locs := by rw [hH, hlo]; exact hS
  rw [← hlo]
  rw [← hH]
  refine lv_aload_n hx hb dX0_restart_0 rfl (lv_at hl 0 rfl) ?_
  refine lv_iconst (v := 1) hx hb dX0_restart_1 (by decide) ?_
  refine k_put hC hK hP hD hS iX0 tyX0_ok nmX0 0 2 wf_X0_19 rfl (by decide) rfl rfl rfl rfl (Nat.le_of_ble_eq_true rfl) dX0_restart_2 (fun H locs hP hD hS => ?_)
  have hP : va_P G cl [(a0, .inr (0, [.ref a1, .int v_fo_1, .int 1, .long w_fo_3, .int v_fo_4, .int v_fo_5, .long w_fo_6]))] H := hP
  have hD : va_D A [(a0, .inr (0, [.ref a1, .int v_fo_1, .int 1, .long w_fo_3, .int v_fo_4, .int v_fo_5, .long w_fo_6]))] := hD
  refine lv_aload_n hx hb dX0_restart_5 rfl (lv_at hl 0 rfl) ?_
  refine lv_lload_n hx hb dX0_restart_6 rfl (lv_at hl 1 rfl) ?_
  refine k_put hC hK hP hD hS iX0 tyX0_ok nmX0 0 3 wf_X0_23 rfl (by decide) rfl rfl rfl rfl (Nat.le_of_ble_eq_true rfl) dX0_restart_7 (fun H locs hP hD hS => ?_)
  have hP : va_P G cl [(a0, .inr (0, [.ref a1, .int v_fo_1, .int 1, .long b1, .int v_fo_4, .int v_fo_5, .long w_fo_6]))] H := hP
  have hD : va_D A [(a0, .inr (0, [.ref a1, .int v_fo_1, .int 1, .long b1, .int v_fo_4, .int v_fo_5, .long w_fo_6]))] := hD
  refine lv_aload_n hx hb dX0_restart_10 rfl (lv_at hl 0 rfl) ?_
  refine lv_iconst (v := 0) hx hb dX0_restart_11 (by decide) ?_
  refine k_put hC hK hP hD hS iX0 tyX0_ok nmX0 0 1 wf_X0_15 rfl (by decide) rfl rfl rfl rfl (Nat.le_of_ble_eq_true rfl) dX0_restart_12 (fun H locs hP hD hS => ?_)
  have hP : va_P G cl [(a0, .inr (0, [.ref a1, .int 0, .int 1, .long b1, .int v_fo_4, .int v_fo_5, .long w_fo_6]))] H := hP
  have hD : va_D A [(a0, .inr (0, [.ref a1, .int 0, .int 1, .long b1, .int v_fo_4, .int v_fo_5, .long w_fo_6]))] := hD
  refine lv_aload_n hx hb dX0_restart_15 rfl (lv_at hl 0 rfl) ?_
  refine lv_dup hx hb dX0_restart_16 rfl ?_
  refine k_get hC hK hP iX0 0 4 wf_X0_27 rfl (by decide) rfl rfl dX0_restart_17 ?_
  refine lv_iconst (v := 1) hx hb dX0_restart_20 (by decide) ?_
  refine lv_iadd hx hb dX0_restart_21 ?_
  refine lv_topi (fun z1 _ => ?_)
  refine k_put hC hK hP hD hS iX0 tyX0_ok nmX0 0 4 wf_X0_27 rfl (by decide) rfl rfl rfl rfl (Nat.le_of_ble_eq_true rfl) dX0_restart_22 (fun H locs hP hD hS => ?_)
  have hP : va_P G cl [(a0, .inr (0, [.ref a1, .int 0, .int 1, .long b1, .int z1, .int v_fo_5, .long w_fo_6]))] H := hP
  have hD : va_D A [(a0, .inr (0, [.ref a1, .int 0, .int 1, .long b1, .int z1, .int v_fo_5, .long w_fo_6]))] := hD
  refine lv_aload_n hx hb dX0_restart_25 rfl (lv_at hl 0 rfl) ?_
  refine lv_iconst (v := 0) hx hb dX0_restart_26 (by decide) ?_
  refine k_put hC hK hP hD hS iX0 tyX0_ok nmX0 0 5 wf_X0_30 rfl (by decide) rfl rfl rfl rfl (Nat.le_of_ble_eq_true rfl) dX0_restart_27 (fun H locs hP hD hS => ?_)
  have hP : va_P G cl [(a0, .inr (0, [.ref a1, .int 0, .int 1, .long b1, .int z1, .int 0, .long w_fo_6]))] H := hP
  have hD : va_D A [(a0, .inr (0, [.ref a1, .int 0, .int 1, .long b1, .int z1, .int 0, .long w_fo_6]))] := hD
  have l_l2 : (0 : Int32).toInt = 0 := rfl
  have l_l3 : (1 : Int32).toInt = 1 := rfl
  rw [← hQm]
  exact k_vret hC hr hlk hK hP hD hS (0, 1, b1, z1, 0) [0] rfl (by decide +kernel) (show 0 ≤ (0 : Int32).toInt ∧ (0 : Int32).toInt ≤ 0 ∧ 1 ≤ (1 : Int32).toInt ∧ (1 : Int32).toInt ≤ 1 ∧ 0 ≤ (0 : Int32).toInt ∧ (0 : Int32).toInt ≤ 0 from by omega) (Nat.le_of_ble_eq_true rfl) (Nat.le_of_ble_eq_true rfl) dX0_restart_30
set_option maxHeartbeats 4000000 in
set_option maxRecDepth 100000 in
theorem c145_X7_leastWeight (l : Launch) (G : va_G) (cI cJ cB cZ : ClassId) (a0 a1 a2 a3 a4 a5 a6 a7 a8 a9 a10 a11 : Nat) (b1 : Int32) (b2 : Int32) (v_V_0 : Int32) (v_V_1 : Int32) (v_V_2 : Int32) (v_V_5 : Int32) (g_V_says : Nat → Int32) (g_V_off : Nat → Int32) (g_V_masterHigh : Nat → Int32) (g_V_masterLow : Nat → Int32) (hv_0 : 0 ≤ b1.toInt) (hv_1 : b1.toInt ≤ 5) (hv_2 : 0 ≤ b2.toInt) (hv_3 : b2.toInt ≤ 40) (hv_4 : 0 ≤ v_V_0.toInt) (hv_5 : v_V_0.toInt ≤ 110) (hv_6 : 0 ≤ v_V_1.toInt) (hv_7 : v_V_1.toInt ≤ 110) (hv_8 : 0 ≤ v_V_5.toInt) (hv_9 : v_V_5.toInt ≤ 6) (hT_g_V_says : TA 0 9 g_V_says) (hT_g_V_off : TA 0 4 g_V_off) : Con l G (TY cI cJ cB cZ) yX7_leastWeight cX7_leastWeight 4 (some .int) ({ frames := 1, cells := 0, slots := 0, locals := 21 } : Room) [.ref a0, .int b1, .int b2] [(a0, .inr (7, [.int v_V_0, .int v_V_1, .int v_V_2, .ref a1, .ref a2, .int v_V_5, .ref a3, .ref a4, .ref a5, .ref a6, .ref a7, .ref a8, .ref a9, .ref a10, .ref a11])), (a4, .inl (cI, 6, .inl g_V_says)), (a6, .inl (cI, 6, .inl g_V_off)), (a9, .inl (cI, 6, .inl g_V_masterHigh)), (a8, .inl (cI, 6, .inl g_V_masterLow))] (QI G (TY cI cJ cB cZ) (fun (r : Int32) (u : Unit) => (1 ≤ r.toInt) ∧ (gI g_V_says (b1 : Int32).toInt * (b2 : Int32).toInt - gI g_V_off (b1 : Int32).toInt ≤ (r : Int32).toInt)) (fun u : Unit => [(a0, .inr (7, [.int v_V_0, .int v_V_1, .int v_V_2, .ref a1, .ref a2, .int v_V_5, .ref a3, .ref a4, .ref a5, .ref a6, .ref a7, .ref a8, .ref a9, .ref a10, .ref a11])), (a4, .inl (cI, 6, .inl g_V_says)), (a6, .inl (cI, 6, .inl g_V_off)), (a9, .inl (cI, 6, .inl g_V_masterHigh)), (a8, .inl (cI, 6, .inl g_V_masterLow))])) := by
  refine k_met (by decide) (Nat.le_of_ble_eq_true rfl) ?_
  intro p e s m below meth c A ls hC hr hlk hnm hN hZ hK hA hP hD hS hl
  have hl : lv_has ls 4 [(0, .ref a0), (1, .int b1), (2, .int b2)] := hl
  generalize hQm : MQ below _ _ s _ _ A = Qm
  generalize (List.toArray _ : Array Value) = args at hC hQm ⊢
  obtain ⟨hx, hb, hml, hown, hts⟩ := id hC
  obtain ⟨H, hH⟩ : ∃ q, q = s.heap := ⟨_, rfl⟩
  obtain ⟨locs, hlo⟩ : ∃ q : List Loc, q = [] := ⟨_, rfl⟩
  have hP : va_P G cl [(a0, .inr (7, [.int v_V_0, .int v_V_1, .int v_V_2, .ref a1, .ref a2, .int v_V_5, .ref a3, .ref a4, .ref a5, .ref a6, .ref a7, .ref a8, .ref a9, .ref a10, .ref a11])), (a4, .inl (cI, 6, .inl g_V_says)), (a6, .inl (cI, 6, .inl g_V_off)), (a9, .inl (cI, 6, .inl g_V_masterHigh)), (a8, .inl (cI, 6, .inl g_V_masterLow))] H := by rw [hH]; exact hP
  have hS : va_S A s.heap H locs := by rw [hH, hlo]; exact hS
  rw [← hlo]
  rw [← hH]
  refine lv_iconst (v := 1) hx hb dX7_leastWeight_0 (by decide) ?_
  refine lv_aload_n hx hb dX7_leastWeight_1 rfl (lv_at hl 0 rfl) ?_
  refine k_get hC hK hP iX7 0 7 wf_X7_22 rfl (by decide) rfl rfl dX7_leastWeight_2 ?_
  refine lv_iload_n hx hb dX7_leastWeight_5 rfl (lv_at hl 1 rfl) ?_
  refine t_ialdX hC hK hP 1 rfl (by omega) (by omega) hT_g_V_says dX7_leastWeight_6 (fun z1 tz1 ex_6 => ?_)
  refine lv_iload_n hx hb dX7_leastWeight_7 rfl (lv_at hl 2 rfl) ?_
  refine lv_imul hx hb dX7_leastWeight_8 ?_
  refine t_i (fun q => q.toInt = z1.toInt * b2.toInt ∧ 0 ≤ q.toInt ∧ q.toInt ≤ 360) (by have h_ := (mul_bd (X := z1.toInt) (Y := b2.toInt) (a := 9) (b := 40) (by omega) (by omega) (by omega) (by omega)); rw [mul_i (by omega) (by omega)]; exact ⟨rfl, by omega, by omega⟩) (fun z2 tz2 => ?_)
  have ar_8 := tz2
  refine lv_aload_n hx hb dX7_leastWeight_9 rfl (lv_at hl 0 rfl) ?_
  refine k_get hC hK hP iX7 0 9 wf_X7_28 rfl (by decide) rfl rfl dX7_leastWeight_10 ?_
  refine lv_iload_n hx hb dX7_leastWeight_13 rfl (lv_at hl 1 rfl) ?_
  refine t_ialdX hC hK hP 2 rfl (by omega) (by omega) hT_g_V_off dX7_leastWeight_14 (fun z3 tz3 ex_14 => ?_)
  refine lv_isub hx hb dX7_leastWeight_15 ?_
  refine t_i (fun q => q.toInt = z2.toInt - z3.toInt) (sub_i (by show (-2147483648 : Int) ≤ z2.toInt - z3.toInt; omega) (by show z2.toInt - z3.toInt ≤ (2147483647 : Int); omega)) (fun z4 tz4 => ?_)
  refine va_mmax hx hb (hml.trans hl.1.symm) hown (hts _ wm_X7_82) (hts _ st_Mmax) (hts _ ini_Math) (hts _ co_Mmax) (Nat.le_of_ble_eq_true rfl) (Nat.le_of_ble_eq_true rfl) (Nat.le_of_ble_eq_true rfl) (Nat.le_of_ble_eq_true rfl) dX7_leastWeight_16 ?_
  refine t_i (fun q => 1 ≤ q.toInt ∧ z4.toInt ≤ q.toInt ∧ (q.toInt = 1 ∨ q.toInt = z4.toInt)) (max_b 1 z4) (fun z5 tz5 => ?_)
  refine lv_istore_n (lv' := [(3, .int z5), (0, .ref a0), (1, .int b1), (2, .int b2)]) hx hb dX7_leastWeight_19 rfl hl (by decide) rfl (fun ls hl => ?_)
  refine lv_aload_n hx hb dX7_leastWeight_20 rfl (lv_at hl 1 rfl) ?_
  refine lv_iload_n hx hb dX7_leastWeight_21 rfl (lv_at hl 2 rfl) ?_
  refine k_ci (wr := [(a4, .inl (cI, 6, .inl g_V_says)), (a6, .inl (cI, 6, .inl g_V_off)), (a8, .inl (cI, 6, .inl g_V_masterLow))]) (k_rV hC hN hZ hS hA hK hP hD (c27_X7_hasMaster l G cI cJ cB cZ a0 a1 a2 a3 a4 a5 a6 a7 a8 a9 a10 a11 b1 v_V_0 v_V_1 v_V_2 v_V_5 g_V_masterHigh hv_0 hv_1 hv_4 hv_5 hv_6 hv_7 hv_8 hv_9) [0, 3] rfl (by decide +kernel) mi_X7_hasMaster in_X7_hasMaster se_X7_hasMaster wm_X7_88 7 0 rfl rfl rfl hl.1 rfl rfl (Nat.le_of_ble_eq_true rfl) ⟨(Nat.le_of_ble_eq_true rfl), (Nat.le_of_ble_eq_true rfl)⟩ dX7_leastWeight_22 ⟨(Nat.le_of_ble_eq_true rfl), (Nat.le_of_ble_eq_true rfl)⟩) hP hD hS hA [0, 3] [1, 2, 4] rfl rfl (by decide +kernel) (by decide +kernel) (fun r6 u6 H locs hp hP hD hS => ?_)
  have hp : (0 ≤ r6.toInt ∧ r6.toInt ≤ 1) := hp
  have hP : va_P G cl [(a4, .inl (cI, 6, .inl g_V_says)), (a6, .inl (cI, 6, .inl g_V_off)), (a8, .inl (cI, 6, .inl g_V_masterLow)), (a0, .inr (7, [.int v_V_0, .int v_V_1, .int v_V_2, .ref a1, .ref a2, .int v_V_5, .ref a3, .ref a4, .ref a5, .ref a6, .ref a7, .ref a8, .ref a9, .ref a10, .ref a11])), (a9, .inl (cI, 6, .inl g_V_masterHigh))] H := hP
  have hD : va_D A [(a4, .inl (cI, 6, .inl g_V_says)), (a6, .inl (cI, 6, .inl g_V_off)), (a8, .inl (cI, 6, .inl g_V_masterLow)), (a0, .inr (7, [.int v_V_0, .int v_V_1, .int v_V_2, .ref a1, .ref a2, .int v_V_5, .ref a3, .ref a4, .ref a5, .ref a6, .ref a7, .ref a8, .ref a9, .ref a10, .ref a11])), (a9, .inl (cI, 6, .inl g_V_masterHigh))] := hD
  have hq6 := hp
  refine lv_if_eq (tgt := 41) hx hb dX7_leastWeight_25 (by decide) (fun c7 => ?_) (fun c7 => ?_)
  · have dc7 : r6.toInt = 0 := (fa_eq _ _).mp c7
    refine lv_iload_n hx hb dX7_leastWeight_41 rfl (lv_at hl 0 rfl) ?_
    rw [← hQm]
    exact k_iret hC hr hlk hK hP hD hS () [3, 0, 1, 4, 2] rfl (by decide +kernel) ⟨(show 1 ≤ z5.toInt from by omega), (show gI g_V_says (b1 : Int32).toInt * (b2 : Int32).toInt - gI g_V_off (b1 : Int32).toInt ≤ (z5 : Int32).toInt from by rw [← ex_6 _ rfl, ← ex_14 _ rfl, ← ar_8.1]; omega)⟩ (Nat.le_of_ble_eq_true rfl) (Nat.le_of_ble_eq_true rfl) dX7_leastWeight_42
  · have dc7 : r6.toInt ≠ 0 := fa_ne c7
    refine lv_iload_n hx hb dX7_leastWeight_28 rfl (lv_at hl 0 rfl) ?_
    refine lv_aload_n hx hb dX7_leastWeight_29 rfl (lv_at hl 1 rfl) ?_
    refine k_get hC hK hP iX7 3 11 wf_X7_34 rfl (by decide) rfl rfl dX7_leastWeight_30 ?_
    refine lv_iload_n hx hb dX7_leastWeight_33 rfl (lv_at hl 2 rfl) ?_
    refine t_ialdX hC hK hP 2 rfl (by omega) (by omega) (TA.all _) dX7_leastWeight_34 (fun z8 tz8 ex_34 => ?_)
    refine va_mmax hx hb (hml.trans hl.1.symm) hown (hts _ wm_X7_82) (hts _ st_Mmax) (hts _ ini_Math) (hts _ co_Mmax) (Nat.le_of_ble_eq_true rfl) (Nat.le_of_ble_eq_true rfl) (Nat.le_of_ble_eq_true rfl) (Nat.le_of_ble_eq_true rfl) dX7_leastWeight_35 ?_
    refine t_i (fun q => z5.toInt ≤ q.toInt ∧ z8.toInt ≤ q.toInt ∧ (q.toInt = z5.toInt ∨ q.toInt = z8.toInt)) (max_b z5 z8) (fun z9 tz9 => ?_)
    refine lv_goto (tgt := 42) hx hb dX7_leastWeight_38 (by decide) ?_
    rw [← hQm]
    exact k_iret hC hr hlk hK hP hD hS () [3, 0, 1, 4, 2] rfl (by decide +kernel) ⟨(show 1 ≤ z9.toInt from by omega), (show gI g_V_says (b1 : Int32).toInt * (b2 : Int32).toInt - gI g_V_off (b1 : Int32).toInt ≤ (z9 : Int32).toInt from by rw [← ex_6 _ rfl, ← ex_14 _ rfl, ← ar_8.1]; omega)⟩ (Nat.le_of_ble_eq_true rfl) (Nat.le_of_ble_eq_true rfl) dX7_leastWeight_42
set_option maxHeartbeats 4000000 in
set_option maxRecDepth 100000 in
theorem c146_X7_mostWeight (l : Launch) (G : va_G) (cI cJ cB cZ : ClassId) (a0 a1 a2 a3 a4 a5 a6 a7 a8 a9 a10 a11 : Nat) (b1 : Int32) (b2 : Int32) (v_V_0 : Int32) (v_V_1 : Int32) (v_V_2 : Int32) (v_V_5 : Int32) (g_V_says : Nat → Int32) (g_V_off : Nat → Int32) (g_V_masterHigh : Nat → Int32) (hv_0 : 0 ≤ b1.toInt) (hv_1 : b1.toInt ≤ 5) (hv_2 : 0 ≤ b2.toInt) (hv_3 : b2.toInt ≤ 40) (hv_4 : 0 ≤ v_V_0.toInt) (hv_5 : v_V_0.toInt ≤ 110) (hv_6 : 0 ≤ v_V_1.toInt) (hv_7 : v_V_1.toInt ≤ 110) (hv_8 : 0 ≤ v_V_5.toInt) (hv_9 : v_V_5.toInt ≤ 6) (hT_g_V_says : TA 0 9 g_V_says) (hT_g_V_off : TA 0 4 g_V_off) : Con l G (TY cI cJ cB cZ) yX7_mostWeight cX7_mostWeight 4 (some .int) ({ frames := 1, cells := 0, slots := 0, locals := 21 } : Room) [.ref a0, .int b1, .int b2] [(a0, .inr (7, [.int v_V_0, .int v_V_1, .int v_V_2, .ref a1, .ref a2, .int v_V_5, .ref a3, .ref a4, .ref a5, .ref a6, .ref a7, .ref a8, .ref a9, .ref a10, .ref a11])), (a4, .inl (cI, 6, .inl g_V_says)), (a6, .inl (cI, 6, .inl g_V_off)), (a9, .inl (cI, 6, .inl g_V_masterHigh))] (QI G (TY cI cJ cB cZ) (fun (r : Int32) (u : Unit) => (r.toInt ≤ 364) ∧ ((r : Int32).toInt ≤ gI g_V_says (b1 : Int32).toInt * (b2 : Int32).toInt + gI g_V_off (b1 : Int32).toInt)) (fun u : Unit => [(a0, .inr (7, [.int v_V_0, .int v_V_1, .int v_V_2, .ref a1, .ref a2, .int v_V_5, .ref a3, .ref a4, .ref a5, .ref a6, .ref a7, .ref a8, .ref a9, .ref a10, .ref a11])), (a4, .inl (cI, 6, .inl g_V_says)), (a6, .inl (cI, 6, .inl g_V_off)), (a9, .inl (cI, 6, .inl g_V_masterHigh))])) := by
  refine k_met (by decide) (Nat.le_of_ble_eq_true rfl) ?_
  intro p e s m below meth c A ls hC hr hlk hnm hN hZ hK hA hP hD hS hl
  have hl : lv_has ls 4 [(0, .ref a0), (1, .int b1), (2, .int b2)] := hl
  generalize hQm : MQ below _ _ s _ _ A = Qm
  generalize (List.toArray _ : Array Value) = args at hC hQm ⊢
  obtain ⟨hx, hb, hml, hown, hts⟩ := id hC
  obtain ⟨H, hH⟩ : ∃ q, q = s.heap := ⟨_, rfl⟩
  obtain ⟨locs, hlo⟩ : ∃ q : List Loc, q = [] := ⟨_, rfl⟩
  have hP : va_P G cl [(a0, .inr (7, [.int v_V_0, .int v_V_1, .int v_V_2, .ref a1, .ref a2, .int v_V_5, .ref a3, .ref a4, .ref a5, .ref a6, .ref a7, .ref a8, .ref a9, .ref a10, .ref a11])), (a4, .inl (cI, 6, .inl g_V_says)), (a6, .inl (cI, 6, .inl g_V_off)), (a9, .inl (cI, 6, .inl g_V_masterHigh))] H := by rw [hH]; exact hP
  have hS : va_S A s.heap H locs := by rw [hH, hlo]; exact hS
  rw [← hlo]
  rw [← hH]
  refine lv_aload_n hx hb dX7_mostWeight_0 rfl (lv_at hl 0 rfl) ?_
  refine k_get hC hK hP iX7 0 7 wf_X7_22 rfl (by decide) rfl rfl dX7_mostWeight_1 ?_
  refine lv_iload_n hx hb dX7_mostWeight_4 rfl (lv_at hl 1 rfl) ?_
  refine t_ialdX hC hK hP 1 rfl (by omega) (by omega) hT_g_V_says dX7_mostWeight_5 (fun z1 tz1 ex_5 => ?_)
  refine lv_iload_n hx hb dX7_mostWeight_6 rfl (lv_at hl 2 rfl) ?_
  refine lv_imul hx hb dX7_mostWeight_7 ?_
  refine t_i (fun q => q.toInt = z1.toInt * b2.toInt ∧ 0 ≤ q.toInt ∧ q.toInt ≤ 360) (by have h_ := (mul_bd (X := z1.toInt) (Y := b2.toInt) (a := 9) (b := 40) (by omega) (by omega) (by omega) (by omega)); rw [mul_i (by omega) (by omega)]; exact ⟨rfl, by omega, by omega⟩) (fun z2 tz2 => ?_)
  have ar_7 := tz2
  refine lv_aload_n hx hb dX7_mostWeight_8 rfl (lv_at hl 0 rfl) ?_
  refine k_get hC hK hP iX7 0 9 wf_X7_28 rfl (by decide) rfl rfl dX7_mostWeight_9 ?_
  refine lv_iload_n hx hb dX7_mostWeight_12 rfl (lv_at hl 1 rfl) ?_
  refine t_ialdX hC hK hP 2 rfl (by omega) (by omega) hT_g_V_off dX7_mostWeight_13 (fun z3 tz3 ex_13 => ?_)
  refine lv_iadd hx hb dX7_mostWeight_14 ?_
  refine t_i (fun q => q.toInt = z2.toInt + z3.toInt) (add_i (by show (-2147483648 : Int) ≤ z2.toInt + z3.toInt; omega) (by show z2.toInt + z3.toInt ≤ (2147483647 : Int); omega)) (fun z4 tz4 => ?_)
  refine lv_istore_n (lv' := [(3, .int z4), (0, .ref a0), (1, .int b1), (2, .int b2)]) hx hb dX7_mostWeight_15 rfl hl (by decide) rfl (fun ls hl => ?_)
  refine lv_aload_n hx hb dX7_mostWeight_16 rfl (lv_at hl 1 rfl) ?_
  refine lv_iload_n hx hb dX7_mostWeight_17 rfl (lv_at hl 2 rfl) ?_
  refine k_ci (wr := [(a4, .inl (cI, 6, .inl g_V_says)), (a6, .inl (cI, 6, .inl g_V_off))]) (k_rV hC hN hZ hS hA hK hP hD (c27_X7_hasMaster l G cI cJ cB cZ a0 a1 a2 a3 a4 a5 a6 a7 a8 a9 a10 a11 b1 v_V_0 v_V_1 v_V_2 v_V_5 g_V_masterHigh hv_0 hv_1 hv_4 hv_5 hv_6 hv_7 hv_8 hv_9) [0, 3] rfl (by decide +kernel) mi_X7_hasMaster in_X7_hasMaster se_X7_hasMaster wm_X7_88 7 0 rfl rfl rfl hl.1 rfl rfl (Nat.le_of_ble_eq_true rfl) ⟨(Nat.le_of_ble_eq_true rfl), (Nat.le_of_ble_eq_true rfl)⟩ dX7_mostWeight_18 ⟨(Nat.le_of_ble_eq_true rfl), (Nat.le_of_ble_eq_true rfl)⟩) hP hD hS hA [0, 3] [1, 2] rfl rfl (by decide +kernel) (by decide +kernel) (fun r5 u5 H locs hp hP hD hS => ?_)
  have hp : (0 ≤ r5.toInt ∧ r5.toInt ≤ 1) := hp
  have hP : va_P G cl [(a4, .inl (cI, 6, .inl g_V_says)), (a6, .inl (cI, 6, .inl g_V_off)), (a0, .inr (7, [.int v_V_0, .int v_V_1, .int v_V_2, .ref a1, .ref a2, .int v_V_5, .ref a3, .ref a4, .ref a5, .ref a6, .ref a7, .ref a8, .ref a9, .ref a10, .ref a11])), (a9, .inl (cI, 6, .inl g_V_masterHigh))] H := hP
  have hD : va_D A [(a4, .inl (cI, 6, .inl g_V_says)), (a6, .inl (cI, 6, .inl g_V_off)), (a0, .inr (7, [.int v_V_0, .int v_V_1, .int v_V_2, .ref a1, .ref a2, .int v_V_5, .ref a3, .ref a4, .ref a5, .ref a6, .ref a7, .ref a8, .ref a9, .ref a10, .ref a11])), (a9, .inl (cI, 6, .inl g_V_masterHigh))] := hD
  have hq5 := hp
  refine lv_if_eq (tgt := 37) hx hb dX7_mostWeight_21 (by decide) (fun c6 => ?_) (fun c6 => ?_)
  · have dc6 : r5.toInt = 0 := (fa_eq _ _).mp c6
    refine lv_iload_n hx hb dX7_mostWeight_37 rfl (lv_at hl 0 rfl) ?_
    rw [← hQm]
    exact k_iret hC hr hlk hK hP hD hS () [2, 0, 1, 3] rfl (by decide +kernel) ⟨(show z4.toInt ≤ 364 from by omega), (show (z4 : Int32).toInt ≤ gI g_V_says (b1 : Int32).toInt * (b2 : Int32).toInt + gI g_V_off (b1 : Int32).toInt from by rw [← ex_5 _ rfl, ← ex_13 _ rfl, ← ar_7.1]; omega)⟩ (Nat.le_of_ble_eq_true rfl) (Nat.le_of_ble_eq_true rfl) dX7_mostWeight_38
  · have dc6 : r5.toInt ≠ 0 := fa_ne c6
    refine lv_iload_n hx hb dX7_mostWeight_24 rfl (lv_at hl 0 rfl) ?_
    refine lv_aload_n hx hb dX7_mostWeight_25 rfl (lv_at hl 1 rfl) ?_
    refine k_get hC hK hP iX7 2 12 wf_X7_37 rfl (by decide) rfl rfl dX7_mostWeight_26 ?_
    refine lv_iload_n hx hb dX7_mostWeight_29 rfl (lv_at hl 2 rfl) ?_
    refine t_ialdX hC hK hP 3 rfl (by omega) (by omega) (TA.all _) dX7_mostWeight_30 (fun z7 tz7 ex_30 => ?_)
    refine va_mmin hx hb (hml.trans hl.1.symm) hown (hts _ wm_X7_92) (hts _ st_Mmin) (hts _ ini_Math) (hts _ co_Mmin) (Nat.le_of_ble_eq_true rfl) (Nat.le_of_ble_eq_true rfl) (Nat.le_of_ble_eq_true rfl) (Nat.le_of_ble_eq_true rfl) dX7_mostWeight_31 ?_
    refine t_i (fun q => q.toInt ≤ z4.toInt ∧ q.toInt ≤ z7.toInt ∧ (q.toInt = z4.toInt ∨ q.toInt = z7.toInt)) (min_b z4 z7) (fun z8 tz8 => ?_)
    refine lv_goto (tgt := 38) hx hb dX7_mostWeight_34 (by decide) ?_
    rw [← hQm]
    exact k_iret hC hr hlk hK hP hD hS () [2, 0, 1, 3] rfl (by decide +kernel) ⟨(show z8.toInt ≤ 364 from by omega), (show (z8 : Int32).toInt ≤ gI g_V_says (b1 : Int32).toInt * (b2 : Int32).toInt + gI g_V_off (b1 : Int32).toInt from by rw [← ex_5 _ rfl, ← ex_13 _ rfl, ← ar_7.1]; omega)⟩ (Nat.le_of_ble_eq_true rfl) (Nat.le_of_ble_eq_true rfl) dX7_mostWeight_38
set_option maxHeartbeats 4000000 in
set_option maxRecDepth 100000 in
theorem c147_X4_setSpans (l : Launch) (G : va_G) (cI cJ cB cZ : ClassId) (a0 a1 a2 a3 a4 a5 a6 a7 a8 a9 a10 a11 a12 a13 a14 a15 a16 a17 a18 : Nat) (b1 : Int32) (b2 : Int32) (v_se_7 : Int32) (v_se_8 : Int32) (v_se_9 : Int32) (v_se_10 : Int32) (v_V_0 : Int32) (v_V_1 : Int32) (v_V_2 : Int32) (v_V_5 : Int32) (g_V_off : Nat → Int32) (g_se_least : Nat → Int32) (g_se_most : Nat → Int32) (g_V_town : Nat → Int32) (g_V_says : Nat → Int32) (g_V_masterHigh : Nat → Int32) (g_V_masterLow : Nat → Int32) (hv_0 : 0 ≤ b1.toInt) (hv_1 : b1.toInt ≤ 40) (hv_2 : 0 ≤ b2.toInt) (hv_3 : b2.toInt ≤ 40) (hv_4 : 0 ≤ v_se_8.toInt) (hv_5 : v_se_9.toInt ≤ 2147483646) (hv_6 : 0 ≤ v_V_0.toInt) (hv_7 : v_V_0.toInt ≤ 110) (hv_8 : 0 ≤ v_V_1.toInt) (hv_9 : v_V_1.toInt ≤ 110) (hv_10 : 0 ≤ v_V_5.toInt) (hv_11 : v_V_5.toInt ≤ 6) (hT_g_V_off : TA 0 4 g_V_off) (hT_g_se_least : TA 0 2147483647 g_se_least) (hT_g_se_most : TA (-2147483648) 2147483646 g_se_most) (hT_g_V_says : TA 0 9 g_V_says) : Con l G (TY cI cJ cB cZ) yX4_setSpans cX4_setSpans 6 (some .boolean) ({ frames := 2, cells := 0, slots := 0, locals := 44 } : Room) [.ref a0, .int b1, .int b2] [(a0, .inr (4, [.ref a1, .ref a2, .ref a3, .ref a4, .ref a5, .ref a6, .ref a7, .int v_se_7, .int v_se_8, .int v_se_9, .int v_se_10])), (a8, .inl (cI, 6, .inl g_V_off)), (a6, .inl (cI, 6, .inl g_se_least)), (a7, .inl (cI, 6, .inl g_se_most)), (a1, .inr (7, [.int v_V_0, .int v_V_1, .int v_V_2, .ref a9, .ref a10, .int v_V_5, .ref a11, .ref a12, .ref a13, .ref a8, .ref a14, .ref a15, .ref a16, .ref a17, .ref a18])), (a13, .inl (cI, 6, .inl g_V_town)), (a12, .inl (cI, 6, .inl g_V_says)), (a16, .inl (cI, 6, .inl g_V_masterHigh)), (a15, .inl (cI, 6, .inl g_V_masterLow))] (QI G (TY cI cJ cB cZ) (fun (r : Int32) (u : (Nat → Int32) × (Nat → Int32)) => (0 ≤ r.toInt ∧ r.toInt ≤ 1) ∧ TA 0 2147483647 u.1 ∧ TA (-2147483648) 2147483646 u.2 ∧ (SPn g_V_off u.1 u.2 (v_V_5 : Int32).toInt)) (fun u : (Nat → Int32) × (Nat → Int32) => [(a0, .inr (4, [.ref a1, .ref a2, .ref a3, .ref a4, .ref a5, .ref a6, .ref a7, .int v_se_7, .int v_se_8, .int v_se_9, .int v_se_10])), (a8, .inl (cI, 6, .inl g_V_off)), (a6, .inl (cI, 6, .inl u.1)), (a7, .inl (cI, 6, .inl u.2)), (a1, .inr (7, [.int v_V_0, .int v_V_1, .int v_V_2, .ref a9, .ref a10, .int v_V_5, .ref a11, .ref a12, .ref a13, .ref a8, .ref a14, .ref a15, .ref a16, .ref a17, .ref a18])), (a13, .inl (cI, 6, .inl g_V_town)), (a12, .inl (cI, 6, .inl g_V_says)), (a16, .inl (cI, 6, .inl g_V_masterHigh)), (a15, .inl (cI, 6, .inl g_V_masterLow))])) := by
  refine k_met (by decide) (Nat.le_of_ble_eq_true rfl) ?_
  intro p e s m below meth c A ls hC hr hlk hnm hN hZ hK hA hP hD hS hl
  have hl : lv_has ls 6 [(0, .ref a0), (1, .int b1), (2, .int b2)] := hl
  generalize hQm : MQ below _ _ s _ _ A = Qm
  generalize (List.toArray _ : Array Value) = args at hC hQm ⊢
  obtain ⟨hx, hb, hml, hown, hts⟩ := id hC
  obtain ⟨H, hH⟩ : ∃ q, q = s.heap := ⟨_, rfl⟩
  obtain ⟨locs, hlo⟩ : ∃ q : List Loc, q = [] := ⟨_, rfl⟩
  have hP : va_P G cl [(a0, .inr (4, [.ref a1, .ref a2, .ref a3, .ref a4, .ref a5, .ref a6, .ref a7, .int v_se_7, .int v_se_8, .int v_se_9, .int v_se_10])), (a8, .inl (cI, 6, .inl g_V_off)), (a6, .inl (cI, 6, .inl g_se_least)), (a7, .inl (cI, 6, .inl g_se_most)), (a1, .inr (7, [.int v_V_0, .int v_V_1, .int v_V_2, .ref a9, .ref a10, .int v_V_5, .ref a11, .ref a12, .ref a13, .ref a8, .ref a14, .ref a15, .ref a16, .ref a17, .ref a18])), (a13, .inl (cI, 6, .inl g_V_town)), (a12, .inl (cI, 6, .inl g_V_says)), (a16, .inl (cI, 6, .inl g_V_masterHigh)), (a15, .inl (cI, 6, .inl g_V_masterLow))] H := by rw [hH]; exact hP
  have hS : va_S A s.heap H locs := by rw [hH, hlo]; exact hS
  rw [← hlo]
  rw [← hH]
  refine lv_iconst (v := 1) hx hb dX4_setSpans_0 (by decide) ?_
  refine lv_istore_n (lv' := [(3, .int 1), (0, .ref a0), (1, .int b1), (2, .int b2)]) hx hb dX4_setSpans_1 rfl hl (by decide) rfl (fun ls hl => ?_)
  refine lv_iconst (v := 0) hx hb dX4_setSpans_2 (by decide) ?_
  refine lv_istore (lv' := [(4, .int 0), (3, .int 1), (0, .ref a0), (1, .int b1), (2, .int b2)]) hx hb dX4_setSpans_3 hl (by decide) rfl (fun ls hl => ?_)
  have L_5 : ∀ (n : Nat) (x1 : Int32) (x2 : Int32) (f3 : Nat → Int32) (f4 : Nat → Int32) (H : Heap) (locs : List Loc) (ls : Array Slot), (0 ≤ x1.toInt ∧ x1.toInt ≤ 6 ∧ 0 ≤ x2.toInt ∧ x2.toInt ≤ 1) → 6 - x1.toInt < (n : Int) → TA 0 2147483647 f3 → TA (-2147483648) 2147483646 f4 → (SPn g_V_off f3 f4 (x1 : Int32).toInt) → va_P G cl [(a0, .inr (4, [.ref a1, .ref a2, .ref a3, .ref a4, .ref a5, .ref a6, .ref a7, .int v_se_7, .int v_se_8, .int v_se_9, .int v_se_10])), (a8, .inl (cI, 6, .inl g_V_off)), (a6, .inl (cI, 6, .inl f3)), (a7, .inl (cI, 6, .inl f4)), (a1, .inr (7, [.int v_V_0, .int v_V_1, .int v_V_2, .ref a9, .ref a10, .int v_V_5, .ref a11, .ref a12, .ref a13, .ref a8, .ref a14, .ref a15, .ref a16, .ref a17, .ref a18])), (a13, .inl (cI, 6, .inl g_V_town)), (a12, .inl (cI, 6, .inl g_V_says)), (a16, .inl (cI, 6, .inl g_V_masterHigh)), (a15, .inl (cI, 6, .inl g_V_masterLow))] H → va_D A [(a0, .inr (4, [.ref a1, .ref a2, .ref a3, .ref a4, .ref a5, .ref a6, .ref a7, .int v_se_7, .int v_se_8, .int v_se_9, .int v_se_10])), (a8, .inl (cI, 6, .inl g_V_off)), (a6, .inl (cI, 6, .inl f3)), (a7, .inl (cI, 6, .inl f4)), (a1, .inr (7, [.int v_V_0, .int v_V_1, .int v_V_2, .ref a9, .ref a10, .int v_V_5, .ref a11, .ref a12, .ref a13, .ref a8, .ref a14, .ref a15, .ref a16, .ref a17, .ref a18])), (a13, .inl (cI, 6, .inl g_V_town)), (a12, .inl (cI, 6, .inl g_V_says)), (a16, .inl (cI, 6, .inl g_V_masterHigh)), (a15, .inl (cI, 6, .inl g_V_masterLow))] → va_S A s.heap H locs → lv_has ls 6 [(0, .ref a0), (1, .int b1), (2, .int b2), (3, .int x2), (4, .int x1)] → W p l e ({ frames := 2, cells := 0, slots := 0, locals := 44 } : Room) s m args below meth c H locs 0 0 Qm (F0 m 5 ls []) := by
    intro n
    induction n with
    | zero => intro x1 x2 f3 f4 H locs ls hv hm; omega
    | succ n ih =>
      intro x1 x2 f3 f4 H locs ls hv hm hT_f3 hT_f4 hSP hP hD hS hl
      refine lv_iload hx hb dX4_setSpans_5 (lv_at hl 4 rfl) ?_
      refine lv_aload_n hx hb dX4_setSpans_7 rfl (lv_at hl 0 rfl) ?_
      refine k_get hC hK hP iX4 0 0 wf_X4_12 rfl (by decide) rfl rfl dX4_setSpans_8 ?_
      refine k_getN hC hN hK hP iX7 4 5 wf_X4_109 rfl (by decide) rfl rfl dX4_setSpans_11 ?_
      refine lv_icmp_ge (tgt := 104) hx hb dX4_setSpans_14 (by decide) (fun c5 => ?_) (fun c5 => ?_)
      · have dc5 : v_V_5.toInt ≤ x1.toInt := (fa_le _ _).mp c5
        refine lv_iload_n hx hb dX4_setSpans_104 rfl (lv_at hl 3 rfl) ?_
        rw [← hQm]
        exact k_zret hC hr hlk hK hP hD hS (f3, f4) [0, 1, 2, 3, 4, 5, 6, 7, 8] rfl (by decide +kernel) (nar_bool (by omega) (by omega)) ⟨(show 0 ≤ x2.toInt ∧ x2.toInt ≤ 1 from by omega), hT_f3, hT_f4, (show SPn g_V_off f3 f4 (v_V_5 : Int32).toInt from by exact fun j h1 h2 => hSP j h1 (by omega))⟩ (Nat.le_of_ble_eq_true rfl) (Nat.le_of_ble_eq_true rfl) dX4_setSpans_105
      · have dc5 : x1.toInt < v_V_5.toInt := fa_nle c5
        refine lv_aload_n hx hb dX4_setSpans_17 rfl (lv_at hl 0 rfl) ?_
        refine k_get hC hK hP iX4 0 0 wf_X4_12 rfl (by decide) rfl rfl dX4_setSpans_18 ?_
        refine k_getN hC hN hK hP iX7 4 8 wf_X4_112 rfl (by decide) rfl rfl dX4_setSpans_21 ?_
        refine lv_iload hx hb dX4_setSpans_24 (lv_at hl 4 rfl) ?_
        refine t_ialdX hC hK hP 5 rfl (by omega) (by omega) (TA.all _) dX4_setSpans_26 (fun z6 tz6 ex_26 => ?_)
        refine lv_if_ne (tgt := 34) hx hb dX4_setSpans_27 (by decide) (fun c7 => ?_) (fun c7 => ?_)
        · have dc7 : z6.toInt ≠ 0 := fa_ne c7; have lbc7_0 := i_lo z6; have ubc7_0 := i_hi z6
          refine lv_iload_n hx hb dX4_setSpans_34 rfl (lv_at hl 2 rfl) ?_
          refine lv_istore (lv' := [(5, .int b2), (0, .ref a0), (1, .int b1), (2, .int b2), (3, .int x2), (4, .int x1)]) hx hb dX4_setSpans_35 hl (by decide) rfl (fun ls hl => ?_)
          refine lv_aload_n hx hb dX4_setSpans_37 rfl (lv_at hl 1 rfl) ?_
          refine k_get hC hK hP iX4 0 5 wf_X4_41 rfl (by decide) rfl rfl dX4_setSpans_38 ?_
          refine lv_iload hx hb dX4_setSpans_41 (lv_at hl 5 rfl) ?_
          refine lv_aload_n hx hb dX4_setSpans_43 rfl (lv_at hl 1 rfl) ?_
          refine k_get hC hK hP iX4 0 0 wf_X4_12 rfl (by decide) rfl rfl dX4_setSpans_44 ?_
          refine lv_iload hx hb dX4_setSpans_47 (lv_at hl 5 rfl) ?_
          refine lv_iload hx hb dX4_setSpans_49 (lv_at hl 0 rfl) ?_
          refine k_ci (wr := [(a0, .inr (4, [.ref a1, .ref a2, .ref a3, .ref a4, .ref a5, .ref a6, .ref a7, .int v_se_7, .int v_se_8, .int v_se_9, .int v_se_10])), (a6, .inl (cI, 6, .inl f3)), (a7, .inl (cI, 6, .inl f4)), (a13, .inl (cI, 6, .inl g_V_town))]) (k_rV hC hN hZ hS hA hK hP hD (c145_X7_leastWeight l G cI cJ cB cZ a1 a9 a10 a11 a12 a13 a8 a14 a15 a16 a17 a18 x1 b2 v_V_0 v_V_1 v_V_2 v_V_5 g_V_says g_V_off g_V_masterHigh g_V_masterLow (by omega) (by omega) hv_2 hv_3 hv_6 hv_7 hv_8 hv_9 hv_10 hv_11 hT_g_V_says hT_g_V_off) [4, 6, 1, 7, 8] rfl (by decide +kernel) mi_X7_leastWeight in_X7_leastWeight se_X7_leastWeight wm_X4_115 7 4 rfl rfl rfl hl.1 rfl rfl (Nat.le_of_ble_eq_true rfl) ⟨(Nat.le_of_ble_eq_true rfl), (Nat.le_of_ble_eq_true rfl)⟩ dX4_setSpans_51 ⟨(Nat.le_of_ble_eq_true rfl), (Nat.le_of_ble_eq_true rfl)⟩) hP hD hS hA [4, 6, 1, 7, 8] [0, 2, 3, 5] rfl rfl (by decide +kernel) (by decide +kernel) (fun r8 u8 H locs hp hP hD hS => ?_)
          obtain ⟨hp, hl_51⟩ : (1 ≤ r8.toInt) ∧ (gI g_V_says (x1 : Int32).toInt * (b2 : Int32).toInt - gI g_V_off (x1 : Int32).toInt ≤ (r8 : Int32).toInt) := hp
          have hP : va_P G cl [(a0, .inr (4, [.ref a1, .ref a2, .ref a3, .ref a4, .ref a5, .ref a6, .ref a7, .int v_se_7, .int v_se_8, .int v_se_9, .int v_se_10])), (a6, .inl (cI, 6, .inl f3)), (a7, .inl (cI, 6, .inl f4)), (a13, .inl (cI, 6, .inl g_V_town)), (a1, .inr (7, [.int v_V_0, .int v_V_1, .int v_V_2, .ref a9, .ref a10, .int v_V_5, .ref a11, .ref a12, .ref a13, .ref a8, .ref a14, .ref a15, .ref a16, .ref a17, .ref a18])), (a12, .inl (cI, 6, .inl g_V_says)), (a8, .inl (cI, 6, .inl g_V_off)), (a16, .inl (cI, 6, .inl g_V_masterHigh)), (a15, .inl (cI, 6, .inl g_V_masterLow))] H := hP
          have hD : va_D A [(a0, .inr (4, [.ref a1, .ref a2, .ref a3, .ref a4, .ref a5, .ref a6, .ref a7, .int v_se_7, .int v_se_8, .int v_se_9, .int v_se_10])), (a6, .inl (cI, 6, .inl f3)), (a7, .inl (cI, 6, .inl f4)), (a13, .inl (cI, 6, .inl g_V_town)), (a1, .inr (7, [.int v_V_0, .int v_V_1, .int v_V_2, .ref a9, .ref a10, .int v_V_5, .ref a11, .ref a12, .ref a13, .ref a8, .ref a14, .ref a15, .ref a16, .ref a17, .ref a18])), (a12, .inl (cI, 6, .inl g_V_says)), (a8, .inl (cI, 6, .inl g_V_off)), (a16, .inl (cI, 6, .inl g_V_masterHigh)), (a15, .inl (cI, 6, .inl g_V_masterLow))] := hD
          have hq8 := hp
          refine t_iastX hC hK hP hD hS 1 rfl (by omega) (by omega) hT_f3 (by have p_ := i_lo r8; have q_ := i_hi r8; omega) dX4_setSpans_54 (fun f9 H locs up_54 hT_f9 hP hD hS => ?_)
          have hP : va_P G cl [(a0, .inr (4, [.ref a1, .ref a2, .ref a3, .ref a4, .ref a5, .ref a6, .ref a7, .int v_se_7, .int v_se_8, .int v_se_9, .int v_se_10])), (a6, .inl (cI, 6, .inl f9)), (a7, .inl (cI, 6, .inl f4)), (a13, .inl (cI, 6, .inl g_V_town)), (a1, .inr (7, [.int v_V_0, .int v_V_1, .int v_V_2, .ref a9, .ref a10, .int v_V_5, .ref a11, .ref a12, .ref a13, .ref a8, .ref a14, .ref a15, .ref a16, .ref a17, .ref a18])), (a12, .inl (cI, 6, .inl g_V_says)), (a8, .inl (cI, 6, .inl g_V_off)), (a16, .inl (cI, 6, .inl g_V_masterHigh)), (a15, .inl (cI, 6, .inl g_V_masterLow))] H := hP
          have hD : va_D A [(a0, .inr (4, [.ref a1, .ref a2, .ref a3, .ref a4, .ref a5, .ref a6, .ref a7, .int v_se_7, .int v_se_8, .int v_se_9, .int v_se_10])), (a6, .inl (cI, 6, .inl f9)), (a7, .inl (cI, 6, .inl f4)), (a13, .inl (cI, 6, .inl g_V_town)), (a1, .inr (7, [.int v_V_0, .int v_V_1, .int v_V_2, .ref a9, .ref a10, .int v_V_5, .ref a11, .ref a12, .ref a13, .ref a8, .ref a14, .ref a15, .ref a16, .ref a17, .ref a18])), (a12, .inl (cI, 6, .inl g_V_says)), (a8, .inl (cI, 6, .inl g_V_off)), (a16, .inl (cI, 6, .inl g_V_masterHigh)), (a15, .inl (cI, 6, .inl g_V_masterLow))] := hD
          refine lv_aload_n hx hb dX4_setSpans_55 rfl (lv_at hl 1 rfl) ?_
          refine k_get hC hK hP iX4 0 6 wf_X4_44 rfl (by decide) rfl rfl dX4_setSpans_56 ?_
          refine lv_iload hx hb dX4_setSpans_59 (lv_at hl 5 rfl) ?_
          refine lv_aload_n hx hb dX4_setSpans_61 rfl (lv_at hl 1 rfl) ?_
          refine k_get hC hK hP iX4 0 0 wf_X4_12 rfl (by decide) rfl rfl dX4_setSpans_62 ?_
          refine lv_iload hx hb dX4_setSpans_65 (lv_at hl 5 rfl) ?_
          refine lv_iload hx hb dX4_setSpans_67 (lv_at hl 0 rfl) ?_
          refine k_ci (wr := [(a0, .inr (4, [.ref a1, .ref a2, .ref a3, .ref a4, .ref a5, .ref a6, .ref a7, .int v_se_7, .int v_se_8, .int v_se_9, .int v_se_10])), (a6, .inl (cI, 6, .inl f9)), (a7, .inl (cI, 6, .inl f4)), (a13, .inl (cI, 6, .inl g_V_town)), (a15, .inl (cI, 6, .inl g_V_masterLow))]) (k_rV hC hN hZ hS hA hK hP hD (c146_X7_mostWeight l G cI cJ cB cZ a1 a9 a10 a11 a12 a13 a8 a14 a15 a16 a17 a18 x1 b2 v_V_0 v_V_1 v_V_2 v_V_5 g_V_says g_V_off g_V_masterHigh (by omega) (by omega) hv_2 hv_3 hv_6 hv_7 hv_8 hv_9 hv_10 hv_11 hT_g_V_says hT_g_V_off) [4, 5, 6, 7] rfl (by decide +kernel) mi_X7_mostWeight in_X7_mostWeight se_X7_mostWeight wm_X4_119 7 4 rfl rfl rfl hl.1 rfl rfl (Nat.le_of_ble_eq_true rfl) ⟨(Nat.le_of_ble_eq_true rfl), (Nat.le_of_ble_eq_true rfl)⟩ dX4_setSpans_69 ⟨(Nat.le_of_ble_eq_true rfl), (Nat.le_of_ble_eq_true rfl)⟩) hP hD hS hA [4, 5, 6, 7] [0, 1, 2, 3, 8] rfl rfl (by decide +kernel) (by decide +kernel) (fun r10 u10 H locs hp hP hD hS => ?_)
          obtain ⟨hp, hm_69⟩ : (r10.toInt ≤ 364) ∧ ((r10 : Int32).toInt ≤ gI g_V_says (x1 : Int32).toInt * (b2 : Int32).toInt + gI g_V_off (x1 : Int32).toInt) := hp
          have hP : va_P G cl [(a0, .inr (4, [.ref a1, .ref a2, .ref a3, .ref a4, .ref a5, .ref a6, .ref a7, .int v_se_7, .int v_se_8, .int v_se_9, .int v_se_10])), (a6, .inl (cI, 6, .inl f9)), (a7, .inl (cI, 6, .inl f4)), (a13, .inl (cI, 6, .inl g_V_town)), (a15, .inl (cI, 6, .inl g_V_masterLow)), (a1, .inr (7, [.int v_V_0, .int v_V_1, .int v_V_2, .ref a9, .ref a10, .int v_V_5, .ref a11, .ref a12, .ref a13, .ref a8, .ref a14, .ref a15, .ref a16, .ref a17, .ref a18])), (a12, .inl (cI, 6, .inl g_V_says)), (a8, .inl (cI, 6, .inl g_V_off)), (a16, .inl (cI, 6, .inl g_V_masterHigh))] H := hP
          have hD : va_D A [(a0, .inr (4, [.ref a1, .ref a2, .ref a3, .ref a4, .ref a5, .ref a6, .ref a7, .int v_se_7, .int v_se_8, .int v_se_9, .int v_se_10])), (a6, .inl (cI, 6, .inl f9)), (a7, .inl (cI, 6, .inl f4)), (a13, .inl (cI, 6, .inl g_V_town)), (a15, .inl (cI, 6, .inl g_V_masterLow)), (a1, .inr (7, [.int v_V_0, .int v_V_1, .int v_V_2, .ref a9, .ref a10, .int v_V_5, .ref a11, .ref a12, .ref a13, .ref a8, .ref a14, .ref a15, .ref a16, .ref a17, .ref a18])), (a12, .inl (cI, 6, .inl g_V_says)), (a8, .inl (cI, 6, .inl g_V_off)), (a16, .inl (cI, 6, .inl g_V_masterHigh))] := hD
          have hq10 := hp
          refine t_iastX hC hK hP hD hS 2 rfl (by omega) (by omega) hT_f4 (by have p_ := i_lo r10; have q_ := i_hi r10; omega) dX4_setSpans_72 (fun f11 H locs up_72 hT_f11 hP hD hS => ?_)
          have hP : va_P G cl [(a0, .inr (4, [.ref a1, .ref a2, .ref a3, .ref a4, .ref a5, .ref a6, .ref a7, .int v_se_7, .int v_se_8, .int v_se_9, .int v_se_10])), (a6, .inl (cI, 6, .inl f9)), (a7, .inl (cI, 6, .inl f11)), (a13, .inl (cI, 6, .inl g_V_town)), (a15, .inl (cI, 6, .inl g_V_masterLow)), (a1, .inr (7, [.int v_V_0, .int v_V_1, .int v_V_2, .ref a9, .ref a10, .int v_V_5, .ref a11, .ref a12, .ref a13, .ref a8, .ref a14, .ref a15, .ref a16, .ref a17, .ref a18])), (a12, .inl (cI, 6, .inl g_V_says)), (a8, .inl (cI, 6, .inl g_V_off)), (a16, .inl (cI, 6, .inl g_V_masterHigh))] H := hP
          have hD : va_D A [(a0, .inr (4, [.ref a1, .ref a2, .ref a3, .ref a4, .ref a5, .ref a6, .ref a7, .int v_se_7, .int v_se_8, .int v_se_9, .int v_se_10])), (a6, .inl (cI, 6, .inl f9)), (a7, .inl (cI, 6, .inl f11)), (a13, .inl (cI, 6, .inl g_V_town)), (a15, .inl (cI, 6, .inl g_V_masterLow)), (a1, .inr (7, [.int v_V_0, .int v_V_1, .int v_V_2, .ref a9, .ref a10, .int v_V_5, .ref a11, .ref a12, .ref a13, .ref a8, .ref a14, .ref a15, .ref a16, .ref a17, .ref a18])), (a12, .inl (cI, 6, .inl g_V_says)), (a8, .inl (cI, 6, .inl g_V_off)), (a16, .inl (cI, 6, .inl g_V_masterHigh))] := hD
          refine lv_iload_n hx hb dX4_setSpans_73 rfl (lv_at hl 4 rfl) ?_
          refine lv_aload_n hx hb dX4_setSpans_74 rfl (lv_at hl 1 rfl) ?_
          refine k_get hC hK hP iX4 0 5 wf_X4_41 rfl (by decide) rfl rfl dX4_setSpans_75 ?_
          refine lv_iload hx hb dX4_setSpans_78 (lv_at hl 5 rfl) ?_
          refine t_ialdX hC hK hP 1 rfl (by omega) (by omega) hT_f9 dX4_setSpans_80 (fun z12 tz12 ex_80 => ?_)
          refine lv_aload_n hx hb dX4_setSpans_81 rfl (lv_at hl 1 rfl) ?_
          refine k_get hC hK hP iX4 0 6 wf_X4_44 rfl (by decide) rfl rfl dX4_setSpans_82 ?_
          refine lv_iload hx hb dX4_setSpans_85 (lv_at hl 5 rfl) ?_
          refine t_ialdX hC hK hP 2 rfl (by omega) (by omega) hT_f11 dX4_setSpans_87 (fun z13 tz13 ex_87 => ?_)
          refine lv_icmp_gt (tgt := 95) hx hb dX4_setSpans_88 (by decide) (fun c14 => ?_) (fun c14 => ?_)
          · have dc14 : z13.toInt < z12.toInt := (fa_lt _ _).mp c14; have lbc14_0 := i_lo z13; have ubc14_1 := i_hi z12
            refine lv_iconst (v := 0) hx hb dX4_setSpans_95 (by decide) ?_
            refine lv_iand hx hb dX4_setSpans_96 ?_
            refine t_i (fun q => 0 ≤ q.toInt ∧ q.toInt ≤ 0) (by have h_ := and_b (x := x2) (y := 0) (by decide); exact h_) (fun z15 tz15 => ?_)
            refine lv_istore_n (lv' := [(3, .int z15), (5, .int b2), (0, .ref a0), (1, .int b1), (2, .int b2), (4, .int x1)]) hx hb dX4_setSpans_97 rfl hl (by decide) rfl (fun ls hl => ?_)
            obtain ⟨z16, ez16⟩ : ∃ q : Int32, q = x1 + Int32.ofInt 1 := ⟨_, rfl⟩
            have tz16 : z16.toInt = x1.toInt + 1 := by rw [ez16]; exact add_i (y := 1) (by have p_ := i_lo x1; show _ ≤ _ + (1 : Int); omega) (by have q_ := i_hi x1; show _ + (1 : Int) ≤ _; omega)
            refine lv_iinc (v := z16) (lv' := [(4, .int z16), (3, .int z15), (5, .int b2), (0, .ref a0), (1, .int b1), (2, .int b2)]) hx hb dX4_setSpans_98 hl (k := 5) rfl ez16.symm (by decide) rfl (fun ls hl => ?_)
            refine lv_goto (tgt := 5) hx hb dX4_setSpans_101 (by decide) ?_
            exact ih  z16 z15 f9 f11 H locs ls (by omega) (by omega) hT_f9 hT_f11 (by exact SPn.step hSP (up_54 _ rfl) (up_72 _ rfl) hl_51 hm_69 (by omega)) (hP.subm [0, 7, 1, 2, 5, 3, 6, 8, 4] rfl) (hD.sub [0, 7, 1, 2, 5, 3, 6, 8, 4] (by decide +kernel) rfl) hS (lv_sub hl [3, 4, 5, 1, 0] rfl)
          · have dc14 : z12.toInt ≤ z13.toInt := fa_nlt c14; have lbc14_0 := i_lo z13; have ubc14_1 := i_hi z12
            refine lv_iconst (v := 1) hx hb dX4_setSpans_91 (by decide) ?_
            refine lv_goto (tgt := 96) hx hb dX4_setSpans_92 (by decide) ?_
            refine lv_iand hx hb dX4_setSpans_96 ?_
            refine t_i (fun q => 0 ≤ q.toInt ∧ q.toInt ≤ 1) (by have h_ := and_b (x := x2) (y := 1) (by decide); exact h_) (fun z17 tz17 => ?_)
            refine lv_istore_n (lv' := [(3, .int z17), (5, .int b2), (0, .ref a0), (1, .int b1), (2, .int b2), (4, .int x1)]) hx hb dX4_setSpans_97 rfl hl (by decide) rfl (fun ls hl => ?_)
            obtain ⟨z18, ez18⟩ : ∃ q : Int32, q = x1 + Int32.ofInt 1 := ⟨_, rfl⟩
            have tz18 : z18.toInt = x1.toInt + 1 := by rw [ez18]; exact add_i (y := 1) (by have p_ := i_lo x1; show _ ≤ _ + (1 : Int); omega) (by have q_ := i_hi x1; show _ + (1 : Int) ≤ _; omega)
            refine lv_iinc (v := z18) (lv' := [(4, .int z18), (3, .int z17), (5, .int b2), (0, .ref a0), (1, .int b1), (2, .int b2)]) hx hb dX4_setSpans_98 hl (k := 5) rfl ez18.symm (by decide) rfl (fun ls hl => ?_)
            refine lv_goto (tgt := 5) hx hb dX4_setSpans_101 (by decide) ?_
            exact ih  z18 z17 f9 f11 H locs ls (by omega) (by omega) hT_f9 hT_f11 (by exact SPn.step hSP (up_54 _ rfl) (up_72 _ rfl) hl_51 hm_69 (by omega)) (hP.subm [0, 7, 1, 2, 5, 3, 6, 8, 4] rfl) (hD.sub [0, 7, 1, 2, 5, 3, 6, 8, 4] (by decide +kernel) rfl) hS (lv_sub hl [3, 4, 5, 1, 0] rfl)
        · have dc7 : z6.toInt = 0 := (fa_eq _ _).mp c7; have lbc7_0 := i_lo z6; have ubc7_0 := i_hi z6
          refine lv_iload_n hx hb dX4_setSpans_30 rfl (lv_at hl 1 rfl) ?_
          refine lv_goto (tgt := 35) hx hb dX4_setSpans_31 (by decide) ?_
          refine lv_istore (lv' := [(5, .int b1), (0, .ref a0), (1, .int b1), (2, .int b2), (3, .int x2), (4, .int x1)]) hx hb dX4_setSpans_35 hl (by decide) rfl (fun ls hl => ?_)
          refine lv_aload_n hx hb dX4_setSpans_37 rfl (lv_at hl 1 rfl) ?_
          refine k_get hC hK hP iX4 0 5 wf_X4_41 rfl (by decide) rfl rfl dX4_setSpans_38 ?_
          refine lv_iload hx hb dX4_setSpans_41 (lv_at hl 5 rfl) ?_
          refine lv_aload_n hx hb dX4_setSpans_43 rfl (lv_at hl 1 rfl) ?_
          refine k_get hC hK hP iX4 0 0 wf_X4_12 rfl (by decide) rfl rfl dX4_setSpans_44 ?_
          refine lv_iload hx hb dX4_setSpans_47 (lv_at hl 5 rfl) ?_
          refine lv_iload hx hb dX4_setSpans_49 (lv_at hl 0 rfl) ?_
          refine k_ci (wr := [(a0, .inr (4, [.ref a1, .ref a2, .ref a3, .ref a4, .ref a5, .ref a6, .ref a7, .int v_se_7, .int v_se_8, .int v_se_9, .int v_se_10])), (a6, .inl (cI, 6, .inl f3)), (a7, .inl (cI, 6, .inl f4)), (a13, .inl (cI, 6, .inl g_V_town))]) (k_rV hC hN hZ hS hA hK hP hD (c145_X7_leastWeight l G cI cJ cB cZ a1 a9 a10 a11 a12 a13 a8 a14 a15 a16 a17 a18 x1 b1 v_V_0 v_V_1 v_V_2 v_V_5 g_V_says g_V_off g_V_masterHigh g_V_masterLow (by omega) (by omega) hv_0 hv_1 hv_6 hv_7 hv_8 hv_9 hv_10 hv_11 hT_g_V_says hT_g_V_off) [4, 6, 1, 7, 8] rfl (by decide +kernel) mi_X7_leastWeight in_X7_leastWeight se_X7_leastWeight wm_X4_115 7 4 rfl rfl rfl hl.1 rfl rfl (Nat.le_of_ble_eq_true rfl) ⟨(Nat.le_of_ble_eq_true rfl), (Nat.le_of_ble_eq_true rfl)⟩ dX4_setSpans_51 ⟨(Nat.le_of_ble_eq_true rfl), (Nat.le_of_ble_eq_true rfl)⟩) hP hD hS hA [4, 6, 1, 7, 8] [0, 2, 3, 5] rfl rfl (by decide +kernel) (by decide +kernel) (fun r19 u19 H locs hp hP hD hS => ?_)
          obtain ⟨hp, hl_51⟩ : (1 ≤ r19.toInt) ∧ (gI g_V_says (x1 : Int32).toInt * (b1 : Int32).toInt - gI g_V_off (x1 : Int32).toInt ≤ (r19 : Int32).toInt) := hp
          have hP : va_P G cl [(a0, .inr (4, [.ref a1, .ref a2, .ref a3, .ref a4, .ref a5, .ref a6, .ref a7, .int v_se_7, .int v_se_8, .int v_se_9, .int v_se_10])), (a6, .inl (cI, 6, .inl f3)), (a7, .inl (cI, 6, .inl f4)), (a13, .inl (cI, 6, .inl g_V_town)), (a1, .inr (7, [.int v_V_0, .int v_V_1, .int v_V_2, .ref a9, .ref a10, .int v_V_5, .ref a11, .ref a12, .ref a13, .ref a8, .ref a14, .ref a15, .ref a16, .ref a17, .ref a18])), (a12, .inl (cI, 6, .inl g_V_says)), (a8, .inl (cI, 6, .inl g_V_off)), (a16, .inl (cI, 6, .inl g_V_masterHigh)), (a15, .inl (cI, 6, .inl g_V_masterLow))] H := hP
          have hD : va_D A [(a0, .inr (4, [.ref a1, .ref a2, .ref a3, .ref a4, .ref a5, .ref a6, .ref a7, .int v_se_7, .int v_se_8, .int v_se_9, .int v_se_10])), (a6, .inl (cI, 6, .inl f3)), (a7, .inl (cI, 6, .inl f4)), (a13, .inl (cI, 6, .inl g_V_town)), (a1, .inr (7, [.int v_V_0, .int v_V_1, .int v_V_2, .ref a9, .ref a10, .int v_V_5, .ref a11, .ref a12, .ref a13, .ref a8, .ref a14, .ref a15, .ref a16, .ref a17, .ref a18])), (a12, .inl (cI, 6, .inl g_V_says)), (a8, .inl (cI, 6, .inl g_V_off)), (a16, .inl (cI, 6, .inl g_V_masterHigh)), (a15, .inl (cI, 6, .inl g_V_masterLow))] := hD
          have hq19 := hp
          refine t_iastX hC hK hP hD hS 1 rfl (by omega) (by omega) hT_f3 (by have p_ := i_lo r19; have q_ := i_hi r19; omega) dX4_setSpans_54 (fun f20 H locs up_54 hT_f20 hP hD hS => ?_)
          have hP : va_P G cl [(a0, .inr (4, [.ref a1, .ref a2, .ref a3, .ref a4, .ref a5, .ref a6, .ref a7, .int v_se_7, .int v_se_8, .int v_se_9, .int v_se_10])), (a6, .inl (cI, 6, .inl f20)), (a7, .inl (cI, 6, .inl f4)), (a13, .inl (cI, 6, .inl g_V_town)), (a1, .inr (7, [.int v_V_0, .int v_V_1, .int v_V_2, .ref a9, .ref a10, .int v_V_5, .ref a11, .ref a12, .ref a13, .ref a8, .ref a14, .ref a15, .ref a16, .ref a17, .ref a18])), (a12, .inl (cI, 6, .inl g_V_says)), (a8, .inl (cI, 6, .inl g_V_off)), (a16, .inl (cI, 6, .inl g_V_masterHigh)), (a15, .inl (cI, 6, .inl g_V_masterLow))] H := hP
          have hD : va_D A [(a0, .inr (4, [.ref a1, .ref a2, .ref a3, .ref a4, .ref a5, .ref a6, .ref a7, .int v_se_7, .int v_se_8, .int v_se_9, .int v_se_10])), (a6, .inl (cI, 6, .inl f20)), (a7, .inl (cI, 6, .inl f4)), (a13, .inl (cI, 6, .inl g_V_town)), (a1, .inr (7, [.int v_V_0, .int v_V_1, .int v_V_2, .ref a9, .ref a10, .int v_V_5, .ref a11, .ref a12, .ref a13, .ref a8, .ref a14, .ref a15, .ref a16, .ref a17, .ref a18])), (a12, .inl (cI, 6, .inl g_V_says)), (a8, .inl (cI, 6, .inl g_V_off)), (a16, .inl (cI, 6, .inl g_V_masterHigh)), (a15, .inl (cI, 6, .inl g_V_masterLow))] := hD
          refine lv_aload_n hx hb dX4_setSpans_55 rfl (lv_at hl 1 rfl) ?_
          refine k_get hC hK hP iX4 0 6 wf_X4_44 rfl (by decide) rfl rfl dX4_setSpans_56 ?_
          refine lv_iload hx hb dX4_setSpans_59 (lv_at hl 5 rfl) ?_
          refine lv_aload_n hx hb dX4_setSpans_61 rfl (lv_at hl 1 rfl) ?_
          refine k_get hC hK hP iX4 0 0 wf_X4_12 rfl (by decide) rfl rfl dX4_setSpans_62 ?_
          refine lv_iload hx hb dX4_setSpans_65 (lv_at hl 5 rfl) ?_
          refine lv_iload hx hb dX4_setSpans_67 (lv_at hl 0 rfl) ?_
          refine k_ci (wr := [(a0, .inr (4, [.ref a1, .ref a2, .ref a3, .ref a4, .ref a5, .ref a6, .ref a7, .int v_se_7, .int v_se_8, .int v_se_9, .int v_se_10])), (a6, .inl (cI, 6, .inl f20)), (a7, .inl (cI, 6, .inl f4)), (a13, .inl (cI, 6, .inl g_V_town)), (a15, .inl (cI, 6, .inl g_V_masterLow))]) (k_rV hC hN hZ hS hA hK hP hD (c146_X7_mostWeight l G cI cJ cB cZ a1 a9 a10 a11 a12 a13 a8 a14 a15 a16 a17 a18 x1 b1 v_V_0 v_V_1 v_V_2 v_V_5 g_V_says g_V_off g_V_masterHigh (by omega) (by omega) hv_0 hv_1 hv_6 hv_7 hv_8 hv_9 hv_10 hv_11 hT_g_V_says hT_g_V_off) [4, 5, 6, 7] rfl (by decide +kernel) mi_X7_mostWeight in_X7_mostWeight se_X7_mostWeight wm_X4_119 7 4 rfl rfl rfl hl.1 rfl rfl (Nat.le_of_ble_eq_true rfl) ⟨(Nat.le_of_ble_eq_true rfl), (Nat.le_of_ble_eq_true rfl)⟩ dX4_setSpans_69 ⟨(Nat.le_of_ble_eq_true rfl), (Nat.le_of_ble_eq_true rfl)⟩) hP hD hS hA [4, 5, 6, 7] [0, 1, 2, 3, 8] rfl rfl (by decide +kernel) (by decide +kernel) (fun r21 u21 H locs hp hP hD hS => ?_)
          obtain ⟨hp, hm_69⟩ : (r21.toInt ≤ 364) ∧ ((r21 : Int32).toInt ≤ gI g_V_says (x1 : Int32).toInt * (b1 : Int32).toInt + gI g_V_off (x1 : Int32).toInt) := hp
          have hP : va_P G cl [(a0, .inr (4, [.ref a1, .ref a2, .ref a3, .ref a4, .ref a5, .ref a6, .ref a7, .int v_se_7, .int v_se_8, .int v_se_9, .int v_se_10])), (a6, .inl (cI, 6, .inl f20)), (a7, .inl (cI, 6, .inl f4)), (a13, .inl (cI, 6, .inl g_V_town)), (a15, .inl (cI, 6, .inl g_V_masterLow)), (a1, .inr (7, [.int v_V_0, .int v_V_1, .int v_V_2, .ref a9, .ref a10, .int v_V_5, .ref a11, .ref a12, .ref a13, .ref a8, .ref a14, .ref a15, .ref a16, .ref a17, .ref a18])), (a12, .inl (cI, 6, .inl g_V_says)), (a8, .inl (cI, 6, .inl g_V_off)), (a16, .inl (cI, 6, .inl g_V_masterHigh))] H := hP
          have hD : va_D A [(a0, .inr (4, [.ref a1, .ref a2, .ref a3, .ref a4, .ref a5, .ref a6, .ref a7, .int v_se_7, .int v_se_8, .int v_se_9, .int v_se_10])), (a6, .inl (cI, 6, .inl f20)), (a7, .inl (cI, 6, .inl f4)), (a13, .inl (cI, 6, .inl g_V_town)), (a15, .inl (cI, 6, .inl g_V_masterLow)), (a1, .inr (7, [.int v_V_0, .int v_V_1, .int v_V_2, .ref a9, .ref a10, .int v_V_5, .ref a11, .ref a12, .ref a13, .ref a8, .ref a14, .ref a15, .ref a16, .ref a17, .ref a18])), (a12, .inl (cI, 6, .inl g_V_says)), (a8, .inl (cI, 6, .inl g_V_off)), (a16, .inl (cI, 6, .inl g_V_masterHigh))] := hD
          have hq21 := hp
          refine t_iastX hC hK hP hD hS 2 rfl (by omega) (by omega) hT_f4 (by have p_ := i_lo r21; have q_ := i_hi r21; omega) dX4_setSpans_72 (fun f22 H locs up_72 hT_f22 hP hD hS => ?_)
          have hP : va_P G cl [(a0, .inr (4, [.ref a1, .ref a2, .ref a3, .ref a4, .ref a5, .ref a6, .ref a7, .int v_se_7, .int v_se_8, .int v_se_9, .int v_se_10])), (a6, .inl (cI, 6, .inl f20)), (a7, .inl (cI, 6, .inl f22)), (a13, .inl (cI, 6, .inl g_V_town)), (a15, .inl (cI, 6, .inl g_V_masterLow)), (a1, .inr (7, [.int v_V_0, .int v_V_1, .int v_V_2, .ref a9, .ref a10, .int v_V_5, .ref a11, .ref a12, .ref a13, .ref a8, .ref a14, .ref a15, .ref a16, .ref a17, .ref a18])), (a12, .inl (cI, 6, .inl g_V_says)), (a8, .inl (cI, 6, .inl g_V_off)), (a16, .inl (cI, 6, .inl g_V_masterHigh))] H := hP
          have hD : va_D A [(a0, .inr (4, [.ref a1, .ref a2, .ref a3, .ref a4, .ref a5, .ref a6, .ref a7, .int v_se_7, .int v_se_8, .int v_se_9, .int v_se_10])), (a6, .inl (cI, 6, .inl f20)), (a7, .inl (cI, 6, .inl f22)), (a13, .inl (cI, 6, .inl g_V_town)), (a15, .inl (cI, 6, .inl g_V_masterLow)), (a1, .inr (7, [.int v_V_0, .int v_V_1, .int v_V_2, .ref a9, .ref a10, .int v_V_5, .ref a11, .ref a12, .ref a13, .ref a8, .ref a14, .ref a15, .ref a16, .ref a17, .ref a18])), (a12, .inl (cI, 6, .inl g_V_says)), (a8, .inl (cI, 6, .inl g_V_off)), (a16, .inl (cI, 6, .inl g_V_masterHigh))] := hD
          refine lv_iload_n hx hb dX4_setSpans_73 rfl (lv_at hl 4 rfl) ?_
          refine lv_aload_n hx hb dX4_setSpans_74 rfl (lv_at hl 1 rfl) ?_
          refine k_get hC hK hP iX4 0 5 wf_X4_41 rfl (by decide) rfl rfl dX4_setSpans_75 ?_
          refine lv_iload hx hb dX4_setSpans_78 (lv_at hl 5 rfl) ?_
          refine t_ialdX hC hK hP 1 rfl (by omega) (by omega) hT_f20 dX4_setSpans_80 (fun z23 tz23 ex_80 => ?_)
          refine lv_aload_n hx hb dX4_setSpans_81 rfl (lv_at hl 1 rfl) ?_
          refine k_get hC hK hP iX4 0 6 wf_X4_44 rfl (by decide) rfl rfl dX4_setSpans_82 ?_
          refine lv_iload hx hb dX4_setSpans_85 (lv_at hl 5 rfl) ?_
          refine t_ialdX hC hK hP 2 rfl (by omega) (by omega) hT_f22 dX4_setSpans_87 (fun z24 tz24 ex_87 => ?_)
          refine lv_icmp_gt (tgt := 95) hx hb dX4_setSpans_88 (by decide) (fun c25 => ?_) (fun c25 => ?_)
          · have dc25 : z24.toInt < z23.toInt := (fa_lt _ _).mp c25; have lbc25_0 := i_lo z24; have ubc25_1 := i_hi z23
            refine lv_iconst (v := 0) hx hb dX4_setSpans_95 (by decide) ?_
            refine lv_iand hx hb dX4_setSpans_96 ?_
            refine t_i (fun q => 0 ≤ q.toInt ∧ q.toInt ≤ 0) (by have h_ := and_b (x := x2) (y := 0) (by decide); exact h_) (fun z26 tz26 => ?_)
            refine lv_istore_n (lv' := [(3, .int z26), (5, .int b1), (0, .ref a0), (1, .int b1), (2, .int b2), (4, .int x1)]) hx hb dX4_setSpans_97 rfl hl (by decide) rfl (fun ls hl => ?_)
            obtain ⟨z27, ez27⟩ : ∃ q : Int32, q = x1 + Int32.ofInt 1 := ⟨_, rfl⟩
            have tz27 : z27.toInt = x1.toInt + 1 := by rw [ez27]; exact add_i (y := 1) (by have p_ := i_lo x1; show _ ≤ _ + (1 : Int); omega) (by have q_ := i_hi x1; show _ + (1 : Int) ≤ _; omega)
            refine lv_iinc (v := z27) (lv' := [(4, .int z27), (3, .int z26), (5, .int b1), (0, .ref a0), (1, .int b1), (2, .int b2)]) hx hb dX4_setSpans_98 hl (k := 5) rfl ez27.symm (by decide) rfl (fun ls hl => ?_)
            refine lv_goto (tgt := 5) hx hb dX4_setSpans_101 (by decide) ?_
            exact ih  z27 z26 f20 f22 H locs ls (by omega) (by omega) hT_f20 hT_f22 (by exact SPn.step hSP (up_54 _ rfl) (up_72 _ rfl) hl_51 hm_69 (by omega)) (hP.subm [0, 7, 1, 2, 5, 3, 6, 8, 4] rfl) (hD.sub [0, 7, 1, 2, 5, 3, 6, 8, 4] (by decide +kernel) rfl) hS (lv_sub hl [3, 4, 5, 1, 0] rfl)
          · have dc25 : z23.toInt ≤ z24.toInt := fa_nlt c25; have lbc25_0 := i_lo z24; have ubc25_1 := i_hi z23
            refine lv_iconst (v := 1) hx hb dX4_setSpans_91 (by decide) ?_
            refine lv_goto (tgt := 96) hx hb dX4_setSpans_92 (by decide) ?_
            refine lv_iand hx hb dX4_setSpans_96 ?_
            refine t_i (fun q => 0 ≤ q.toInt ∧ q.toInt ≤ 1) (by have h_ := and_b (x := x2) (y := 1) (by decide); exact h_) (fun z28 tz28 => ?_)
            refine lv_istore_n (lv' := [(3, .int z28), (5, .int b1), (0, .ref a0), (1, .int b1), (2, .int b2), (4, .int x1)]) hx hb dX4_setSpans_97 rfl hl (by decide) rfl (fun ls hl => ?_)
            obtain ⟨z29, ez29⟩ : ∃ q : Int32, q = x1 + Int32.ofInt 1 := ⟨_, rfl⟩
            have tz29 : z29.toInt = x1.toInt + 1 := by rw [ez29]; exact add_i (y := 1) (by have p_ := i_lo x1; show _ ≤ _ + (1 : Int); omega) (by have q_ := i_hi x1; show _ + (1 : Int) ≤ _; omega)
            refine lv_iinc (v := z29) (lv' := [(4, .int z29), (3, .int z28), (5, .int b1), (0, .ref a0), (1, .int b1), (2, .int b2)]) hx hb dX4_setSpans_98 hl (k := 5) rfl ez29.symm (by decide) rfl (fun ls hl => ?_)
            refine lv_goto (tgt := 5) hx hb dX4_setSpans_101 (by decide) ?_
            exact ih  z29 z28 f20 f22 H locs ls (by omega) (by omega) hT_f20 hT_f22 (by exact SPn.step hSP (up_54 _ rfl) (up_72 _ rfl) hl_51 hm_69 (by omega)) (hP.subm [0, 7, 1, 2, 5, 3, 6, 8, 4] rfl) (hD.sub [0, 7, 1, 2, 5, 3, 6, 8, 4] (by decide +kernel) rfl) hS (lv_sub hl [3, 4, 5, 1, 0] rfl)
  have l_l30 : (0 : Int32).toInt = 0 := rfl
  have l_l31 : (1 : Int32).toInt = 1 := rfl
  exact L_5 7 0 1 g_se_least g_se_most H locs ls (by omega) (by omega) hT_g_se_least hT_g_se_most (by exact fun j h1 h2 => by have l0_ : (0 : Int32).toInt = 0 := rfl; omega) (hP.subm [0, 1, 2, 3, 4, 5, 6, 7, 8] rfl) (hD.sub [0, 1, 2, 3, 4, 5, 6, 7, 8] (by decide +kernel) rfl) hS (lv_sub hl [2, 3, 4, 1, 0] rfl)
theorem dX0_head_0 : decode cX0_head 0 = .ok (.iload_n 0, 1) := by decide +kernel
theorem dX0_head_1 : decode cX0_head 1 = .ok (.i2l, 1) := by decide +kernel
theorem dX0_head_2 : decode cX0_head 2 = .ok (.bipush 54, 2) := by decide +kernel
theorem dX0_head_4 : decode cX0_head 4 = .ok (.lshl, 1) := by decide +kernel
theorem dX0_head_5 : decode cX0_head 5 = .ok (.iload_n 1, 1) := by decide +kernel
theorem dX0_head_6 : decode cX0_head 6 = .ok (.i2l, 1) := by decide +kernel
theorem dX0_head_7 : decode cX0_head 7 = .ok (.bipush 57, 2) := by decide +kernel
theorem dX0_head_9 : decode cX0_head 9 = .ok (.lshl, 1) := by decide +kernel
theorem dX0_head_10 : decode cX0_head 10 = .ok (.lor, 1) := by decide +kernel
theorem dX0_head_11 : decode cX0_head 11 = .ok (.iload_n 2, 1) := by decide +kernel
theorem dX0_head_12 : decode cX0_head 12 = .ok (.i2l, 1) := by decide +kernel
theorem dX0_head_13 : decode cX0_head 13 = .ok (.bipush 60, 2) := by decide +kernel
theorem dX0_head_15 : decode cX0_head 15 = .ok (.lshl, 1) := by decide +kernel
theorem dX0_head_16 : decode cX0_head 16 = .ok (.lor, 1) := by decide +kernel
theorem dX0_head_17 : decode cX0_head 17 = .ok (.lreturn, 1) := by decide +kernel
set_option maxHeartbeats 4000000 in
set_option maxRecDepth 100000 in
theorem c148_X0_head (l : Launch) (G : va_G) (cI cJ cB cZ : ClassId) (b0 : Int32) (b1 : Int32) (b2 : Int32) : Con l G (TY cI cJ cB cZ) yX0_head cX0_head 3 (some .long) ({ frames := 0, cells := 0, slots := 0, locals := 0 } : Room) [.int b0, .int b1, .int b2] [] (QL G (TY cI cJ cB cZ) (fun (r : Int64) (u : Unit) => (True)) (fun u : Unit => [])) := by
  refine k_met (by decide) (Nat.le_of_ble_eq_true rfl) ?_
  intro p e s m below meth c A ls hC hr hlk hnm hN hZ hK hA hP hD hS hl
  have hl : lv_has ls 3 [(0, .int b0), (1, .int b1), (2, .int b2)] := hl
  generalize hQm : MQ below _ _ s _ _ A = Qm
  generalize (List.toArray _ : Array Value) = args at hC hQm ⊢
  obtain ⟨hx, hb, hml, hown, hts⟩ := id hC
  obtain ⟨H, hH⟩ : ∃ q, q = s.heap := ⟨_, rfl⟩
  obtain ⟨locs, hlo⟩ : ∃ q : List Loc, q = [] := ⟨_, rfl⟩
  have hP : va_P G cl [] H := by rw [hH]; exact hP
  have hS : va_S A s.heap H locs := by rw [hH, hlo]; exact hS
  rw [← hlo]
  rw [← hH]
  refine lv_iload_n hx hb dX0_head_0 rfl (lv_at hl 0 rfl) ?_
  refine lv_i2l hx hb dX0_head_1 rfl ?_
  refine t_l (fun y1 => ?_)
  refine lv_bipush (v := 54) hx hb dX0_head_2 (by decide) ?_
  refine lv_lshl hx hb dX0_head_4 rfl ?_
  refine t_l (fun y2 => ?_)
  refine lv_iload_n hx hb dX0_head_5 rfl (lv_at hl 1 rfl) ?_
  refine lv_i2l hx hb dX0_head_6 rfl ?_
  refine t_l (fun y3 => ?_)
  refine lv_bipush (v := 57) hx hb dX0_head_7 (by decide) ?_
  refine lv_lshl hx hb dX0_head_9 rfl ?_
  refine t_l (fun y4 => ?_)
  refine lv_lor hx hb dX0_head_10 ?_
  refine t_l (fun y5 => ?_)
  refine lv_iload_n hx hb dX0_head_11 rfl (lv_at hl 2 rfl) ?_
  refine lv_i2l hx hb dX0_head_12 rfl ?_
  refine t_l (fun y6 => ?_)
  refine lv_bipush (v := 60) hx hb dX0_head_13 (by decide) ?_
  refine lv_lshl hx hb dX0_head_15 rfl ?_
  refine t_l (fun y7 => ?_)
  refine lv_lor hx hb dX0_head_16 ?_
  refine t_l (fun y8 => ?_)
  rw [← hQm]
  exact k_lret hC hr hlk hK hP hD hS () [] rfl (by decide +kernel) trivial (Nat.le_of_ble_eq_true rfl) (Nat.le_of_ble_eq_true rfl) dX0_head_17
theorem dX0_put_0 : decode cX0_put 0 = .ok (.aload_n 0, 1) := by decide +kernel
theorem dX0_put_1 : decode cX0_put 1 = .ok (.getfield 15, 3) := by decide +kernel
theorem dX0_put_4 : decode cX0_put 4 = .ok (.aload_n 0, 1) := by decide +kernel
theorem dX0_put_5 : decode cX0_put 5 = .ok (.getfield 11, 3) := by decide +kernel
set_option maxRecDepth 100000 in
theorem wf_X0_11 : Cond.fieldLink RX0 11 "StoneTrust$Fits" "rows" "[J" ∈ gw := gm (List.mem_of_getElem? (i := 383) (by decide +kernel)) rfl
theorem dX0_put_8 : decode cX0_put 8 = .ok (.arraylength, 1) := by decide +kernel
theorem dX0_put_9 : decode cX0_put 9 = .ok (.if_icmp .lt 26, 3) := by decide +kernel
theorem dX0_put_35 : decode cX0_put 35 = .ok (.aload_n 0, 1) := by decide +kernel
theorem dX0_put_36 : decode cX0_put 36 = .ok (.getfield 15, 3) := by decide +kernel
theorem dX0_put_39 : decode cX0_put 39 = .ok (.aload_n 0, 1) := by decide +kernel
theorem dX0_put_40 : decode cX0_put 40 = .ok (.getfield 11, 3) := by decide +kernel
theorem dX0_put_43 : decode cX0_put 43 = .ok (.arraylength, 1) := by decide +kernel
theorem dX0_put_44 : decode cX0_put 44 = .ok (.if_icmp .ge 23, 3) := by decide +kernel
theorem dX0_put_67 : decode cX0_put 67 = .ok (.return_, 1) := by decide +kernel
theorem dX0_put_47 : decode cX0_put 47 = .ok (.aload_n 0, 1) := by decide +kernel
theorem dX0_put_48 : decode cX0_put 48 = .ok (.getfield 11, 3) := by decide +kernel
theorem dX0_put_51 : decode cX0_put 51 = .ok (.aload_n 0, 1) := by decide +kernel
theorem dX0_put_52 : decode cX0_put 52 = .ok (.getfield 15, 3) := by decide +kernel
theorem dX0_put_55 : decode cX0_put 55 = .ok (.lload_n 1, 1) := by decide +kernel
theorem dX0_put_56 : decode cX0_put 56 = .ok (.lastore, 1) := by decide +kernel
theorem dX0_put_57 : decode cX0_put 57 = .ok (.aload_n 0, 1) := by decide +kernel
theorem dX0_put_58 : decode cX0_put 58 = .ok (.dup, 1) := by decide +kernel
theorem dX0_put_59 : decode cX0_put 59 = .ok (.getfield 15, 3) := by decide +kernel
theorem dX0_put_62 : decode cX0_put 62 = .ok (.iconst 1, 1) := by decide +kernel
theorem dX0_put_63 : decode cX0_put 63 = .ok (.iadd, 1) := by decide +kernel
theorem dX0_put_64 : decode cX0_put 64 = .ok (.putfield 15, 3) := by decide +kernel
theorem dX0_put_12 : decode cX0_put 12 = .ok (.aload_n 0, 1) := by decide +kernel
theorem dX0_put_13 : decode cX0_put 13 = .ok (.aload_n 0, 1) := by decide +kernel
theorem dX0_put_14 : decode cX0_put 14 = .ok (.getfield 11, 3) := by decide +kernel
theorem dX0_put_17 : decode cX0_put 17 = .ok (.iconst 2, 1) := by decide +kernel
theorem dX0_put_18 : decode cX0_put 18 = .ok (.aload_n 0, 1) := by decide +kernel
theorem dX0_put_19 : decode cX0_put 19 = .ok (.getfield 11, 3) := by decide +kernel
theorem dX0_put_22 : decode cX0_put 22 = .ok (.arraylength, 1) := by decide +kernel
theorem dX0_put_23 : decode cX0_put 23 = .ok (.imul, 1) := by decide +kernel
theorem dX0_put_24 : decode cX0_put 24 = .ok (.ldc 36, 2) := by decide +kernel
set_option maxRecDepth 100000 in
theorem kc_X0_36 : Cond.constant RX0 36 300000 ∈ gw := gm (List.mem_of_getElem? (i := 889) (by decide +kernel)) rfl
theorem dX0_put_26 : decode cX0_put 26 = .ok (.invokestatic 37, 3) := by decide +kernel
set_option maxRecDepth 100000 in
theorem wm_X0_37 : Cond.methodLink RX0 37 Lib.Math.min.name ∈ gw := gm (List.mem_of_getElem? (i := 890) (by decide +kernel)) rfl
set_option maxRecDepth 100000 in
theorem wm_X0_43 : Cond.methodLink RX0 43 yJ7_copyOf_c38d5 ∈ gw := gm (List.mem_of_getElem? (i := 891) (by decide +kernel)) rfl
theorem dX0_put_29 : decode cX0_put 29 = .ok (.invokestatic 43, 3) := by decide +kernel
set_option maxRecDepth 100000 in
theorem st_J7_copyOf_c38d5 : Cond.static yJ7_copyOf_c38d5 ∈ gw := gm (List.mem_of_getElem? (i := 892) (by decide +kernel)) rfl
theorem dX0_put_32 : decode cX0_put 32 = .ok (.putfield 11, 3) := by decide +kernel
set_option maxHeartbeats 4000000 in
set_option maxRecDepth 100000 in
theorem c149_X0_put (l : Launch) (G : va_G) (cI cJ cB cZ : ClassId) (a0 a1 : Nat) (g : Nat) (b1 : Int64) (v_fo_1 : Int32) (v_fo_2 : Int32) (w_fo_3 : Int64) (v_fo_4 : Int32) (v_fo_5 : Int32) (w_fo_6 : Int64) (g_fo_rows : Nat → Int64) (hv_0 : 0 ≤ v_fo_1.toInt) (hv_1 : v_fo_1.toInt ≤ 299999) (hv_2 : 0 ≤ v_fo_2.toInt) (hv_3 : v_fo_2.toInt ≤ 1) (hv_4 : 0 ≤ v_fo_5.toInt) (hv_5 : v_fo_5.toInt ≤ 1) (hv_6 : g ≤ 11) (hv_7 : (v_fo_1.toInt ≤ ((fl g : Nat) : Int))) : ConG l G (TY cI cJ cB cZ) yX0_put cX0_put 3 none ({ frames := 3, cells := 11 - g, slots := fs 11 - fs g, locals := 100 } : Room) [.ref a0, .long b1] [(a0, .inr (0, [.ref a1, .int v_fo_1, .int v_fo_2, .long w_fo_3, .int v_fo_4, .int v_fo_5, .long w_fo_6])), (a1, .inl (cJ, (fl g), .inr (.inl g_fo_rows)))] (QVG G (TY cI cJ cB cZ) g (fun u : Int32 × (Nat → Int64) × Nat × Nat => u.2.2.1) (fun u : Int32 × (Nat → Int64) × Nat × Nat => (1 ≤ u.1.toInt ∧ u.1.toInt ≤ 300000 ∧ (u.1.toInt = v_fo_1.toInt + 1) ∧ g ≤ u.2.2.1 ∧ u.2.2.1 ≤ 11 ∧ u.1.toInt ≤ ((fl u.2.2.1 : Nat) : Int))) (fun u : Int32 × (Nat → Int64) × Nat × Nat => [(a0, .inr (0, [.ref u.2.2.2, .int u.1, .int v_fo_2, .long w_fo_3, .int v_fo_4, .int v_fo_5, .long w_fo_6])), (u.2.2.2, .inl (cJ, (fl u.2.2.1), .inr (.inl u.2.1)))])) := by
  refine k_metG (by decide) (Nat.le_of_ble_eq_true rfl) ?_
  intro p e s m below meth c A ls hC hr hlk hnm hN hZ hK hA hP hD hS hl
  have hl : lv_has ls 3 [(0, .ref a0), (1, .long b1)] := hl
  generalize hQm : MQ below _ _ s _ _ A = Qm
  generalize (List.toArray _ : Array Value) = args at hC hQm ⊢
  obtain ⟨hx, hb, hml, hown, hts⟩ := id hC
  obtain ⟨H, hH⟩ : ∃ q, q = s.heap := ⟨_, rfl⟩
  obtain ⟨locs, hlo⟩ : ∃ q : List Loc, q = [] := ⟨_, rfl⟩
  have hP : va_P G cl [(a0, .inr (0, [.ref a1, .int v_fo_1, .int v_fo_2, .long w_fo_3, .int v_fo_4, .int v_fo_5, .long w_fo_6])), (a1, .inl (cJ, (fl g), .inr (.inl g_fo_rows)))] H := by rw [hH]; exact hP
  have hS : va_S A s.heap H locs := by rw [hH, hlo]; exact hS
  rw [← hlo]
  rw [← hH]
  refine W.tight (k := g - g) (n := fs g - fs g) (by rw [hH]; exact GR.rf) ?_
  refine lv_aload_n hx hb dX0_put_0 rfl (lv_at hl 0 rfl) ?_
  refine k_get hC hK hP iX0 0 1 wf_X0_15 rfl (by decide) rfl rfl dX0_put_1 ?_
  refine lv_aload_n hx hb dX0_put_4 rfl (lv_at hl 0 rfl) ?_
  refine k_get hC hK hP iX0 0 0 wf_X0_11 rfl (by decide) rfl rfl dX0_put_5 ?_
  refine k_alen hC hK hP 1 1 (Int32.ofNat (fl g)) rfl rfl rfl dX0_put_8 ?_
  have fbz1 := fl_b g
  refine t_i (fun q => q.toInt = ((fl g : Nat) : Int)) (ofNat_i (fl_b _).2) (fun z1 tz1 => ?_)
  refine lv_icmp_lt (tgt := 35) hx hb dX0_put_9 (by decide) (fun c2 => ?_) (fun c2 => ?_)
  · have dc2 : v_fo_1.toInt < z1.toInt := (fa_lt _ _).mp c2
    refine lv_aload_n hx hb dX0_put_35 rfl (lv_at hl 0 rfl) ?_
    refine k_get hC hK hP iX0 0 1 wf_X0_15 rfl (by decide) rfl rfl dX0_put_36 ?_
    refine lv_aload_n hx hb dX0_put_39 rfl (lv_at hl 0 rfl) ?_
    refine k_get hC hK hP iX0 0 0 wf_X0_11 rfl (by decide) rfl rfl dX0_put_40 ?_
    refine k_alen hC hK hP 1 1 (Int32.ofNat (fl g)) rfl rfl rfl dX0_put_43 ?_
    have fbz3 := fl_b g
    refine t_i (fun q => q.toInt = ((fl g : Nat) : Int)) (ofNat_i (fl_b _).2) (fun z3 tz3 => ?_)
    refine lv_icmp_ge (tgt := 67) hx hb dX0_put_44 (by decide) (fun c4 => ?_) (fun c4 => ?_)
    · have dc4 : z3.toInt ≤ v_fo_1.toInt := (fa_le _ _).mp c4
      refine W.know (fun hgr => ?_)
      rw [← hQm]
      exact k_vretG hC hr hlk hK hP hD hS (v_fo_1, g_fo_rows, g, a1) [0, 1] rfl (by decide +kernel) (show 1 ≤ v_fo_1.toInt ∧ v_fo_1.toInt ≤ 300000 ∧ (v_fo_1.toInt = v_fo_1.toInt + 1) ∧ g ≤ g ∧ g ≤ 11 ∧ v_fo_1.toInt ≤ ((fl g : Nat) : Int) from by omega) hgr (gr_lc (by omega) (by omega)) (gr_ls (by omega) (by omega)) dX0_put_67
    · have dc4 : v_fo_1.toInt < z3.toInt := fa_nle c4
      refine lv_aload_n hx hb dX0_put_47 rfl (lv_at hl 0 rfl) ?_
      refine k_get hC hK hP iX0 0 0 wf_X0_11 rfl (by decide) rfl rfl dX0_put_48 ?_
      refine lv_aload_n hx hb dX0_put_51 rfl (lv_at hl 0 rfl) ?_
      refine k_get hC hK hP iX0 0 1 wf_X0_15 rfl (by decide) rfl rfl dX0_put_52 ?_
      refine lv_lload_n hx hb dX0_put_55 rfl (lv_at hl 1 rfl) ?_
      refine t_last hC hK hP hD hS 1 rfl (by omega) (by omega) dX0_put_56 (fun f5 H locs hP hD hS => ?_)
      have hP : va_P G cl [(a0, .inr (0, [.ref a1, .int v_fo_1, .int v_fo_2, .long w_fo_3, .int v_fo_4, .int v_fo_5, .long w_fo_6])), (a1, .inl (cJ, (fl g), .inr (.inl f5)))] H := hP
      have hD : va_D A [(a0, .inr (0, [.ref a1, .int v_fo_1, .int v_fo_2, .long w_fo_3, .int v_fo_4, .int v_fo_5, .long w_fo_6])), (a1, .inl (cJ, (fl g), .inr (.inl f5)))] := hD
      refine lv_aload_n hx hb dX0_put_57 rfl (lv_at hl 0 rfl) ?_
      refine lv_dup hx hb dX0_put_58 rfl ?_
      refine k_get hC hK hP iX0 0 1 wf_X0_15 rfl (by decide) rfl rfl dX0_put_59 ?_
      refine lv_iconst (v := 1) hx hb dX0_put_62 (by decide) ?_
      refine lv_iadd hx hb dX0_put_63 ?_
      refine t_i (fun q => q.toInt = v_fo_1.toInt + 1) (add_i (by show (-2147483648 : Int) ≤ v_fo_1.toInt + 1; omega) (by show v_fo_1.toInt + 1 ≤ (2147483647 : Int); omega)) (fun z6 tz6 => ?_)
      refine k_put hC hK hP hD hS iX0 tyX0_ok nmX0 0 1 wf_X0_15 rfl (by decide) rfl rfl rfl rfl (Nat.le_of_ble_eq_true rfl) dX0_put_64 (fun H locs hP hD hS => ?_)
      have hP : va_P G cl [(a0, .inr (0, [.ref a1, .int z6, .int v_fo_2, .long w_fo_3, .int v_fo_4, .int v_fo_5, .long w_fo_6])), (a1, .inl (cJ, (fl g), .inr (.inl f5)))] H := hP
      have hD : va_D A [(a0, .inr (0, [.ref a1, .int z6, .int v_fo_2, .long w_fo_3, .int v_fo_4, .int v_fo_5, .long w_fo_6])), (a1, .inl (cJ, (fl g), .inr (.inl f5)))] := hD
      refine W.know (fun hgr => ?_)
      rw [← hQm]
      exact k_vretG hC hr hlk hK hP hD hS (z6, f5, g, a1) [0, 1] rfl (by decide +kernel) (show 1 ≤ z6.toInt ∧ z6.toInt ≤ 300000 ∧ (z6.toInt = v_fo_1.toInt + 1) ∧ g ≤ g ∧ g ≤ 11 ∧ z6.toInt ≤ ((fl g : Nat) : Int) from by omega) hgr (gr_lc (by omega) (by omega)) (gr_ls (by omega) (by omega)) dX0_put_67
  · have dc2 : z1.toInt ≤ v_fo_1.toInt := fa_nlt c2
    refine lv_aload_n hx hb dX0_put_12 rfl (lv_at hl 0 rfl) ?_
    refine lv_aload_n hx hb dX0_put_13 rfl (lv_at hl 0 rfl) ?_
    refine k_get hC hK hP iX0 0 0 wf_X0_11 rfl (by decide) rfl rfl dX0_put_14 ?_
    refine lv_iconst (v := 2) hx hb dX0_put_17 (by decide) ?_
    refine lv_aload_n hx hb dX0_put_18 rfl (lv_at hl 0 rfl) ?_
    refine k_get hC hK hP iX0 0 0 wf_X0_11 rfl (by decide) rfl rfl dX0_put_19 ?_
    refine k_alen hC hK hP 1 1 (Int32.ofNat (fl g)) rfl rfl rfl dX0_put_22 ?_
    have fbz7 := fl_b g
    refine t_i (fun q => q.toInt = ((fl g : Nat) : Int)) (ofNat_i (fl_b _).2) (fun z7 tz7 => ?_)
    refine lv_imul hx hb dX0_put_23 ?_
    refine t_i (fun q => q.toInt = 2 * z7.toInt) (mul_i (by show (-2147483648 : Int) ≤ 2 * z7.toInt; omega) (by show 2 * z7.toInt ≤ (2147483647 : Int); omega)) (fun z8 tz8 => ?_)
    refine lv_ldc (v := 300000) hx hb hown (hts _ kc_X0_36) dX0_put_24 ?_
    refine va_mmin hx hb (hml.trans hl.1.symm) hown (hts _ wm_X0_37) (hts _ st_Mmin) (hts _ ini_Math) (hts _ co_Mmin) (Nat.le_of_ble_eq_true rfl) (Nat.le_of_ble_eq_true rfl) (gr_lc (by omega) (by omega)) (gr_ls (by omega) (by omega)) dX0_put_26 ?_
    refine t_i (fun q => q.toInt ≤ z8.toInt ∧ q.toInt ≤ 300000 ∧ (q.toInt = z8.toInt ∨ q.toInt = 300000)) (min_b z8 300000) (fun z9 tz9 => ?_)
    have hgl : g < 11 := g_lt (by omega) (by omega)
    have hst2 := fl_step2 hgl
    have hfb2 := fl_b (g + 1)
    refine W.know (fun hgr => ?_)
    refine k_cr (wr := [(a0, .inr (0, [.ref a1, .int v_fo_1, .int v_fo_2, .long w_fo_3, .int v_fo_4, .int v_fo_5, .long w_fo_6]))]) (k_rS hC hN hZ hS hA hK hP hD (c_copyOf l G cI cJ cB cZ a1 (fl g) (fl (g + 1)) g_fo_rows z9 (by omega) (by omega) (by omega)) [1] rfl (by decide) mi_J7_copyOf_c38d5 st_J7_copyOf_c38d5 wm_X0_43 hl.1 rfl rfl (Nat.le_of_ble_eq_true rfl) ⟨(Nat.le_of_ble_eq_true rfl), (Nat.le_of_ble_eq_true rfl)⟩ dX0_put_29 ⟨by show g - g + 1 ≤ 11 - g; omega, by show fs g - fs g + fl (g + 1) ≤ fs 11 - fs g; have h1_ := fs_mono (show g + 1 ≤ 11 from hgl); have h2_ : fs (g + 1) = fs g + fl (g + 1) := rfl; omega⟩) hP hD hS hA [1] [0] rfl rfl (by decide) (by decide) (fun u9 H locs hp hP hD hS => ?_)
    obtain ⟨ad10, f11⟩ := u9
    have hP : va_P G cl [(a0, .inr (0, [.ref a1, .int v_fo_1, .int v_fo_2, .long w_fo_3, .int v_fo_4, .int v_fo_5, .long w_fo_6])), (a1, .inl (cJ, fl g, .inr (.inl g_fo_rows))), (ad10, .inl (cJ, fl (g + 1), .inr (.inl f11)))] H := hP
    have hD : va_D A [(a0, .inr (0, [.ref a1, .int v_fo_1, .int v_fo_2, .long w_fo_3, .int v_fo_4, .int v_fo_5, .long w_fo_6])), (a1, .inl (cJ, fl g, .inr (.inl g_fo_rows))), (ad10, .inl (cJ, fl (g + 1), .inr (.inl f11)))] := hD
    refine k_put hC hK hP hD hS iX0 tyX0_ok nmX0 0 0 wf_X0_11 rfl (by decide) rfl rfl rfl rfl (Nat.le_of_ble_eq_true rfl) dX0_put_32 (fun H locs hP hD hS => ?_)
    have hP : va_P G cl [(a0, .inr (0, [.ref ad10, .int v_fo_1, .int v_fo_2, .long w_fo_3, .int v_fo_4, .int v_fo_5, .long w_fo_6])), (ad10, .inl (cJ, (fl (g + 1)), .inr (.inl f11)))] H := hP.subm [0, 2] rfl
    have hD : va_D A [(a0, .inr (0, [.ref ad10, .int v_fo_1, .int v_fo_2, .long w_fo_3, .int v_fo_4, .int v_fo_5, .long w_fo_6])), (ad10, .inl (cJ, (fl (g + 1)), .inr (.inl f11)))] := hD.sub [0, 2] (by decide) rfl
    refine W.know (fun hgr => ?_)
    refine W.tight (k := (g + 1) - g) (n := fs (g + 1) - fs g) (hgr.mono (by show g - g + 1 ≤ g + 1 - g; omega) (by show fs g - fs g + fl (g + 1) ≤ fs (g + 1) - fs g; have h2_ : fs (g + 1) = fs g + fl (g + 1) := rfl; omega)) ?_
    refine lv_aload_n hx hb dX0_put_35 rfl (lv_at hl 0 rfl) ?_
    refine k_get hC hK hP iX0 0 1 wf_X0_15 rfl (by decide) rfl rfl dX0_put_36 ?_
    refine lv_aload_n hx hb dX0_put_39 rfl (lv_at hl 0 rfl) ?_
    refine k_get hC hK hP iX0 0 0 wf_X0_11 rfl (by decide) rfl rfl dX0_put_40 ?_
    refine k_alen hC hK hP 1 1 (Int32.ofNat (fl (g + 1))) rfl rfl rfl dX0_put_43 ?_
    have fbz12 := fl_b (g + 1)
    refine t_i (fun q => q.toInt = ((fl (g + 1) : Nat) : Int)) (ofNat_i (fl_b _).2) (fun z12 tz12 => ?_)
    refine lv_icmp_ge (tgt := 67) hx hb dX0_put_44 (by decide) (fun c13 => ?_) (fun c13 => ?_)
    · have dc13 : z12.toInt ≤ v_fo_1.toInt := (fa_le _ _).mp c13
      refine W.know (fun hgr => ?_)
      rw [← hQm]
      exact k_vretG hC hr hlk hK hP hD hS (v_fo_1, f11, (g + 1), ad10) [0, 1] rfl (by decide +kernel) (show 1 ≤ v_fo_1.toInt ∧ v_fo_1.toInt ≤ 300000 ∧ (v_fo_1.toInt = v_fo_1.toInt + 1) ∧ g ≤ (g + 1) ∧ (g + 1) ≤ 11 ∧ v_fo_1.toInt ≤ ((fl (g + 1) : Nat) : Int) from by omega) hgr (gr_lc (by omega) (by omega)) (gr_ls (by omega) (by omega)) dX0_put_67
    · have dc13 : v_fo_1.toInt < z12.toInt := fa_nle c13
      refine lv_aload_n hx hb dX0_put_47 rfl (lv_at hl 0 rfl) ?_
      refine k_get hC hK hP iX0 0 0 wf_X0_11 rfl (by decide) rfl rfl dX0_put_48 ?_
      refine lv_aload_n hx hb dX0_put_51 rfl (lv_at hl 0 rfl) ?_
      refine k_get hC hK hP iX0 0 1 wf_X0_15 rfl (by decide) rfl rfl dX0_put_52 ?_
      refine lv_lload_n hx hb dX0_put_55 rfl (lv_at hl 1 rfl) ?_
      refine t_last hC hK hP hD hS 1 rfl (by omega) (by omega) dX0_put_56 (fun f14 H locs hP hD hS => ?_)
      have hP : va_P G cl [(a0, .inr (0, [.ref ad10, .int v_fo_1, .int v_fo_2, .long w_fo_3, .int v_fo_4, .int v_fo_5, .long w_fo_6])), (ad10, .inl (cJ, (fl (g + 1)), .inr (.inl f14)))] H := hP
      have hD : va_D A [(a0, .inr (0, [.ref ad10, .int v_fo_1, .int v_fo_2, .long w_fo_3, .int v_fo_4, .int v_fo_5, .long w_fo_6])), (ad10, .inl (cJ, (fl (g + 1)), .inr (.inl f14)))] := hD
      refine lv_aload_n hx hb dX0_put_57 rfl (lv_at hl 0 rfl) ?_
      refine lv_dup hx hb dX0_put_58 rfl ?_
      refine k_get hC hK hP iX0 0 1 wf_X0_15 rfl (by decide) rfl rfl dX0_put_59 ?_
      refine lv_iconst (v := 1) hx hb dX0_put_62 (by decide) ?_
      refine lv_iadd hx hb dX0_put_63 ?_
      refine t_i (fun q => q.toInt = v_fo_1.toInt + 1) (add_i (by show (-2147483648 : Int) ≤ v_fo_1.toInt + 1; omega) (by show v_fo_1.toInt + 1 ≤ (2147483647 : Int); omega)) (fun z15 tz15 => ?_)
      refine k_put hC hK hP hD hS iX0 tyX0_ok nmX0 0 1 wf_X0_15 rfl (by decide) rfl rfl rfl rfl (Nat.le_of_ble_eq_true rfl) dX0_put_64 (fun H locs hP hD hS => ?_)
      have hP : va_P G cl [(a0, .inr (0, [.ref ad10, .int z15, .int v_fo_2, .long w_fo_3, .int v_fo_4, .int v_fo_5, .long w_fo_6])), (ad10, .inl (cJ, (fl (g + 1)), .inr (.inl f14)))] H := hP
      have hD : va_D A [(a0, .inr (0, [.ref ad10, .int z15, .int v_fo_2, .long w_fo_3, .int v_fo_4, .int v_fo_5, .long w_fo_6])), (ad10, .inl (cJ, (fl (g + 1)), .inr (.inl f14)))] := hD
      refine W.know (fun hgr => ?_)
      rw [← hQm]
      exact k_vretG hC hr hlk hK hP hD hS (z15, f14, (g + 1), ad10) [0, 1] rfl (by decide +kernel) (show 1 ≤ z15.toInt ∧ z15.toInt ≤ 300000 ∧ (z15.toInt = v_fo_1.toInt + 1) ∧ g ≤ (g + 1) ∧ (g + 1) ≤ 11 ∧ z15.toInt ≤ ((fl (g + 1) : Nat) : Int) from by omega) hgr (gr_lc (by omega) (by omega)) (gr_ls (by omega) (by omega)) dX0_put_67
set_option maxHeartbeats 4000000 in
set_option maxRecDepth 100000 in
theorem c150_X4_narrow (l : Launch) (G : va_G) (cI cJ cB cZ : ClassId) (a0 a1 a2 a3 a4 a5 a6 a7 a8 a9 a10 a11 a12 a13 a14 a15 a16 a17 a18 a19 a20 a21 a22 a23 a24 a25 : Nat) (b1 : Int32) (b2 : Int32) (v_se_7 : Int32) (v_se_8 : Int32) (v_se_9 : Int32) (v_se_10 : Int32) (v_cn_7 : Int32) (v_V_0 : Int32) (v_V_1 : Int32) (v_V_2 : Int32) (v_V_5 : Int32) (g_cn_left : Nat → Int32) (g_cn_right : Nat → Int32) (g_cn_year : Nat → Int32) (g_se_weight : Nat → Int32) (g_V_worn : Nat → Int32) (g_cn_how : Nat → Int32) (hv_0 : 0 ≤ b1.toInt) (hv_1 : b1.toInt ≤ 45) (hv_2 : 0 ≤ b2.toInt) (hv_3 : b2.toInt ≤ 5) (hv_4 : 0 ≤ v_se_8.toInt) (hv_5 : v_se_9.toInt ≤ 2147483646) (hv_6 : 0 ≤ v_cn_7.toInt) (hv_7 : v_cn_7.toInt ≤ 46) (hv_8 : 0 ≤ v_V_0.toInt) (hv_9 : v_V_0.toInt ≤ 110) (hv_10 : 0 ≤ v_V_1.toInt) (hv_11 : v_V_1.toInt ≤ 110) (hv_12 : 0 ≤ v_V_5.toInt) (hv_13 : v_V_5.toInt ≤ 6) : Con l G (TY cI cJ cB cZ) yX4_narrow cX4_narrow 12 none ({ frames := 3, cells := 0, slots := 0, locals := 69 } : Room) [.ref a0, .int b1, .int b2] [(a0, .inr (4, [.ref a1, .ref a2, .ref a3, .ref a4, .ref a5, .ref a6, .ref a7, .int v_se_7, .int v_se_8, .int v_se_9, .int v_se_10])), (a3, .inr (8, [.ref a8, .ref a9, .ref a10, .ref a11, .ref a12, .ref a13, .ref a14, .int v_cn_7])), (a8, .inl (cI, 46, .inl g_cn_left)), (a9, .inl (cI, 46, .inl g_cn_right)), (a10, .inl (cI, 46, .inl g_cn_year)), (a1, .inr (7, [.int v_V_0, .int v_V_1, .int v_V_2, .ref a15, .ref a16, .int v_V_5, .ref a17, .ref a18, .ref a19, .ref a20, .ref a21, .ref a22, .ref a23, .ref a24, .ref a25])), (a5, .inl (cI, 6, .inl g_se_weight)), (a21, .inl (cI, 6, .inl g_V_worn)), (a12, .inl (cI, 46, .inl g_cn_how))] (QV G (TY cI cJ cB cZ) (fun u : Int32 × Int32 => (0 ≤ u.1.toInt ∧ u.2.toInt ≤ 2147483646) ∧ (NR (v_se_8 : Int32).toInt (v_se_9 : Int32).toInt (u.1 : Int32).toInt (u.2 : Int32).toInt)) (fun u : Int32 × Int32 => [(a0, .inr (4, [.ref a1, .ref a2, .ref a3, .ref a4, .ref a5, .ref a6, .ref a7, .int v_se_7, .int u.1, .int u.2, .int v_se_10])), (a3, .inr (8, [.ref a8, .ref a9, .ref a10, .ref a11, .ref a12, .ref a13, .ref a14, .int v_cn_7])), (a8, .inl (cI, 46, .inl g_cn_left)), (a9, .inl (cI, 46, .inl g_cn_right)), (a10, .inl (cI, 46, .inl g_cn_year)), (a1, .inr (7, [.int v_V_0, .int v_V_1, .int v_V_2, .ref a15, .ref a16, .int v_V_5, .ref a17, .ref a18, .ref a19, .ref a20, .ref a21, .ref a22, .ref a23, .ref a24, .ref a25])), (a5, .inl (cI, 6, .inl g_se_weight)), (a21, .inl (cI, 6, .inl g_V_worn)), (a12, .inl (cI, 46, .inl g_cn_how))])) := by
  refine k_met (by decide) (Nat.le_of_ble_eq_true rfl) ?_
  intro p e s m below meth c A ls hC hr hlk hnm hN hZ hK hA hP hD hS hl
  have hl : lv_has ls 12 [(0, .ref a0), (1, .int b1), (2, .int b2)] := hl
  generalize hQm : MQ below _ _ s _ _ A = Qm
  generalize (List.toArray _ : Array Value) = args at hC hQm ⊢
  obtain ⟨hx, hb, hml, hown, hts⟩ := id hC
  obtain ⟨H, hH⟩ : ∃ q, q = s.heap := ⟨_, rfl⟩
  obtain ⟨locs, hlo⟩ : ∃ q : List Loc, q = [] := ⟨_, rfl⟩
  have hP : va_P G cl [(a0, .inr (4, [.ref a1, .ref a2, .ref a3, .ref a4, .ref a5, .ref a6, .ref a7, .int v_se_7, .int v_se_8, .int v_se_9, .int v_se_10])), (a3, .inr (8, [.ref a8, .ref a9, .ref a10, .ref a11, .ref a12, .ref a13, .ref a14, .int v_cn_7])), (a8, .inl (cI, 46, .inl g_cn_left)), (a9, .inl (cI, 46, .inl g_cn_right)), (a10, .inl (cI, 46, .inl g_cn_year)), (a1, .inr (7, [.int v_V_0, .int v_V_1, .int v_V_2, .ref a15, .ref a16, .int v_V_5, .ref a17, .ref a18, .ref a19, .ref a20, .ref a21, .ref a22, .ref a23, .ref a24, .ref a25])), (a5, .inl (cI, 6, .inl g_se_weight)), (a21, .inl (cI, 6, .inl g_V_worn)), (a12, .inl (cI, 46, .inl g_cn_how))] H := by rw [hH]; exact hP
  have hS : va_S A s.heap H locs := by rw [hH, hlo]; exact hS
  rw [← hlo]
  rw [← hH]
  refine lv_iconst (v := 1) hx hb dX4_narrow_0 (by decide) ?_
  refine lv_iload_n hx hb dX4_narrow_1 rfl (lv_at hl 2 rfl) ?_
  refine lv_ishl hx hb dX4_narrow_2 ?_
  refine t_i (fun q => 1 ≤ q.toInt ∧ q.toInt ≤ 32) (shl1_b (k := 5) (by decide) (by omega) (by omega)) (fun z1 tz1 => ?_)
  refine lv_istore_n (lv' := [(3, .int z1), (0, .ref a0), (1, .int b1), (2, .int b2)]) hx hb dX4_narrow_3 rfl hl (by decide) rfl (fun ls hl => ?_)
  refine lv_aload_n hx hb dX4_narrow_4 rfl (lv_at hl 1 rfl) ?_
  refine k_get hC hK hP iX4 0 2 wf_X4_30 rfl (by decide) rfl rfl dX4_narrow_5 ?_
  refine k_getN hC hN hK hP iX8 1 0 wf_X4_133 rfl (by decide) rfl rfl dX4_narrow_8 ?_
  refine lv_iload_n hx hb dX4_narrow_11 rfl (lv_at hl 2 rfl) ?_
  refine t_iald hC hK hP 2 rfl (by omega) (by omega) (TA.all _) dX4_narrow_12 (fun z2 tz2 => ?_)
  refine lv_iload_n hx hb dX4_narrow_13 rfl (lv_at hl 0 rfl) ?_
  refine lv_iand hx hb dX4_narrow_14 ?_
  refine t_i (fun q => 0 ≤ q.toInt ∧ q.toInt ≤ z1.toInt) (by have h_ := and_b (x := z2) (y := z1) (by omega); exact h_) (fun z3 tz3 => ?_)
  refine lv_if_eq (tgt := 22) hx hb dX4_narrow_15 (by decide) (fun c4 => ?_) (fun c4 => ?_)
  · have dc4 : z3.toInt = 0 := (fa_eq _ _).mp c4
    refine lv_iconst (v := 0) hx hb dX4_narrow_22 (by decide) ?_
    refine lv_istore (lv' := [(4, .int 0), (3, .int z1), (0, .ref a0), (1, .int b1), (2, .int b2)]) hx hb dX4_narrow_23 hl (by decide) rfl (fun ls hl => ?_)
    refine lv_aload_n hx hb dX4_narrow_25 rfl (lv_at hl 2 rfl) ?_
    refine lv_iload_n hx hb dX4_narrow_26 rfl (lv_at hl 3 rfl) ?_
    refine lv_iload_n hx hb dX4_narrow_27 rfl (lv_at hl 1 rfl) ?_
    refine k_ci (wr := [(a12, .inl (cI, 46, .inl g_cn_how))]) (k_rV hC hN hZ hS hA hK hP hD (c85_X4_differenceOf l G cI cJ cB cZ a0 a1 a2 a3 a4 a5 a6 a7 a8 a9 a10 a11 a12 a13 a14 a15 a16 a17 a18 a19 a20 a21 a22 a23 a24 a25 b1 z1 v_se_7 v_se_8 v_se_9 v_se_10 v_cn_7 v_V_0 v_V_1 v_V_2 v_V_5 g_cn_left g_cn_right g_cn_year g_se_weight g_V_worn hv_0 hv_1 hv_4 hv_5 hv_6 hv_7 hv_8 hv_9 hv_10 hv_11 hv_12 hv_13) [0, 1, 2, 3, 4, 5, 6, 7] rfl (by decide +kernel) mi_X4_differenceOf in_X4_differenceOf se_X4_differenceOf wm_X4_136 4 0 rfl rfl rfl hl.1 rfl rfl (Nat.le_of_ble_eq_true rfl) ⟨(Nat.le_of_ble_eq_true rfl), (Nat.le_of_ble_eq_true rfl)⟩ dX4_narrow_28 ⟨(Nat.le_of_ble_eq_true rfl), (Nat.le_of_ble_eq_true rfl)⟩) hP hD hS hA [0, 1, 2, 3, 4, 5, 6, 7] [8] rfl rfl (by decide +kernel) (by decide +kernel) (fun r5 u5 H locs hp hP hD hS => ?_)
    have hp : (True) := hp
    have hP : va_P G cl [(a12, .inl (cI, 46, .inl g_cn_how)), (a0, .inr (4, [.ref a1, .ref a2, .ref a3, .ref a4, .ref a5, .ref a6, .ref a7, .int v_se_7, .int v_se_8, .int v_se_9, .int v_se_10])), (a3, .inr (8, [.ref a8, .ref a9, .ref a10, .ref a11, .ref a12, .ref a13, .ref a14, .int v_cn_7])), (a8, .inl (cI, 46, .inl g_cn_left)), (a9, .inl (cI, 46, .inl g_cn_right)), (a10, .inl (cI, 46, .inl g_cn_year)), (a1, .inr (7, [.int v_V_0, .int v_V_1, .int v_V_2, .ref a15, .ref a16, .int v_V_5, .ref a17, .ref a18, .ref a19, .ref a20, .ref a21, .ref a22, .ref a23, .ref a24, .ref a25])), (a5, .inl (cI, 6, .inl g_se_weight)), (a21, .inl (cI, 6, .inl g_V_worn))] H := hP
    have hD : va_D A [(a12, .inl (cI, 46, .inl g_cn_how)), (a0, .inr (4, [.ref a1, .ref a2, .ref a3, .ref a4, .ref a5, .ref a6, .ref a7, .int v_se_7, .int v_se_8, .int v_se_9, .int v_se_10])), (a3, .inr (8, [.ref a8, .ref a9, .ref a10, .ref a11, .ref a12, .ref a13, .ref a14, .int v_cn_7])), (a8, .inl (cI, 46, .inl g_cn_left)), (a9, .inl (cI, 46, .inl g_cn_right)), (a10, .inl (cI, 46, .inl g_cn_year)), (a1, .inr (7, [.int v_V_0, .int v_V_1, .int v_V_2, .ref a15, .ref a16, .int v_V_5, .ref a17, .ref a18, .ref a19, .ref a20, .ref a21, .ref a22, .ref a23, .ref a24, .ref a25])), (a5, .inl (cI, 6, .inl g_se_weight)), (a21, .inl (cI, 6, .inl g_V_worn))] := hD
    have hq5 := hp
    refine lv_istore (lv' := [(5, .int r5), (4, .int 0), (3, .int z1), (0, .ref a0), (1, .int b1), (2, .int b2)]) hx hb dX4_narrow_31 hl (by decide) rfl (fun ls hl => ?_)
    refine lv_iload hx hb dX4_narrow_33 (lv_at hl 1 rfl) ?_
    refine lv_if_eq (tgt := 57) hx hb dX4_narrow_35 (by decide) (fun _ => ?_) (fun c_ => absurd (by decide +kernel) c_)
    refine lv_iload hx hb dX4_narrow_57 (lv_at hl 0 rfl) ?_
    refine lv_aload_n hx hb dX4_narrow_59 rfl (lv_at hl 3 rfl) ?_
    refine lv_aload_n hx hb dX4_narrow_60 rfl (lv_at hl 3 rfl) ?_
    refine k_get hC hK hP iX4 1 2 wf_X4_30 rfl (by decide) rfl rfl dX4_narrow_61 ?_
    refine k_getN hC hN hK hP iX8 2 4 wf_X4_139 rfl (by decide) rfl rfl dX4_narrow_64 ?_
    refine lv_iload_n hx hb dX4_narrow_67 rfl (lv_at hl 4 rfl) ?_
    refine t_iald hC hK hP 0 rfl (by omega) (by omega) (TA.all _) dX4_narrow_68 (fun z6 tz6 => ?_)
    refine k_ci (wr := [(a12, .inl (cI, 46, .inl g_cn_how)), (a3, .inr (8, [.ref a8, .ref a9, .ref a10, .ref a11, .ref a12, .ref a13, .ref a14, .int v_cn_7])), (a8, .inl (cI, 46, .inl g_cn_left)), (a9, .inl (cI, 46, .inl g_cn_right)), (a10, .inl (cI, 46, .inl g_cn_year)), (a5, .inl (cI, 6, .inl g_se_weight)), (a21, .inl (cI, 6, .inl g_V_worn))]) (k_rV hC hN hZ hS hA hK hP hD (c86_X4_mostShowing l G cI cJ cB cZ a0 a1 a2 a3 a4 a5 a6 a7 a15 a16 a17 a18 a19 a20 a21 a22 a23 a24 a25 z6 v_se_7 v_se_8 v_se_9 v_se_10 v_V_0 v_V_1 v_V_2 v_V_5 hv_4 hv_5 hv_8 hv_9 hv_10 hv_11 hv_12 hv_13) [1, 6] rfl (by decide +kernel) mi_X4_mostShowing in_X4_mostShowing se_X4_mostShowing wm_X4_145 4 1 rfl rfl rfl hl.1 rfl rfl (Nat.le_of_ble_eq_true rfl) ⟨(Nat.le_of_ble_eq_true rfl), (Nat.le_of_ble_eq_true rfl)⟩ dX4_narrow_69 ⟨(Nat.le_of_ble_eq_true rfl), (Nat.le_of_ble_eq_true rfl)⟩) hP hD hS hA [1, 6] [0, 2, 3, 4, 5, 7, 8] rfl rfl (by decide +kernel) (by decide +kernel) (fun r7 u7 H locs hp hP hD hS => ?_)
    have hp : (True) := hp
    have hP : va_P G cl [(a12, .inl (cI, 46, .inl g_cn_how)), (a3, .inr (8, [.ref a8, .ref a9, .ref a10, .ref a11, .ref a12, .ref a13, .ref a14, .int v_cn_7])), (a8, .inl (cI, 46, .inl g_cn_left)), (a9, .inl (cI, 46, .inl g_cn_right)), (a10, .inl (cI, 46, .inl g_cn_year)), (a5, .inl (cI, 6, .inl g_se_weight)), (a21, .inl (cI, 6, .inl g_V_worn)), (a0, .inr (4, [.ref a1, .ref a2, .ref a3, .ref a4, .ref a5, .ref a6, .ref a7, .int v_se_7, .int v_se_8, .int v_se_9, .int v_se_10])), (a1, .inr (7, [.int v_V_0, .int v_V_1, .int v_V_2, .ref a15, .ref a16, .int v_V_5, .ref a17, .ref a18, .ref a19, .ref a20, .ref a21, .ref a22, .ref a23, .ref a24, .ref a25]))] H := hP
    have hD : va_D A [(a12, .inl (cI, 46, .inl g_cn_how)), (a3, .inr (8, [.ref a8, .ref a9, .ref a10, .ref a11, .ref a12, .ref a13, .ref a14, .int v_cn_7])), (a8, .inl (cI, 46, .inl g_cn_left)), (a9, .inl (cI, 46, .inl g_cn_right)), (a10, .inl (cI, 46, .inl g_cn_year)), (a5, .inl (cI, 6, .inl g_se_weight)), (a21, .inl (cI, 6, .inl g_V_worn)), (a0, .inr (4, [.ref a1, .ref a2, .ref a3, .ref a4, .ref a5, .ref a6, .ref a7, .int v_se_7, .int v_se_8, .int v_se_9, .int v_se_10])), (a1, .inr (7, [.int v_V_0, .int v_V_1, .int v_V_2, .ref a15, .ref a16, .int v_V_5, .ref a17, .ref a18, .ref a19, .ref a20, .ref a21, .ref a22, .ref a23, .ref a24, .ref a25]))] := hD
    have hq7 := hp
    refine lv_isub hx hb dX4_narrow_72 ?_
    refine lv_topi (fun z8 _ => ?_)
    refine lv_istore (lv' := [(6, .int z8), (5, .int r5), (4, .int 0), (3, .int z1), (0, .ref a0), (1, .int b1), (2, .int b2)]) hx hb dX4_narrow_73 hl (by decide) rfl (fun ls hl => ?_)
    refine lv_iload hx hb dX4_narrow_75 (lv_at hl 2 rfl) ?_
    refine lv_if_eq (tgt := 99) hx hb dX4_narrow_77 (by decide) (fun _ => ?_) (fun c_ => absurd (by decide +kernel) c_)
    refine lv_iload hx hb dX4_narrow_99 (lv_at hl 1 rfl) ?_
    refine lv_aload_n hx hb dX4_narrow_101 rfl (lv_at hl 4 rfl) ?_
    refine lv_aload_n hx hb dX4_narrow_102 rfl (lv_at hl 4 rfl) ?_
    refine k_get hC hK hP iX4 7 2 wf_X4_30 rfl (by decide) rfl rfl dX4_narrow_103 ?_
    refine k_getN hC hN hK hP iX8 1 4 wf_X4_139 rfl (by decide) rfl rfl dX4_narrow_106 ?_
    refine lv_iload_n hx hb dX4_narrow_109 rfl (lv_at hl 5 rfl) ?_
    refine t_iald hC hK hP 0 rfl (by omega) (by omega) (TA.all _) dX4_narrow_110 (fun z9 tz9 => ?_)
    refine k_ci (wr := [(a12, .inl (cI, 46, .inl g_cn_how)), (a3, .inr (8, [.ref a8, .ref a9, .ref a10, .ref a11, .ref a12, .ref a13, .ref a14, .int v_cn_7])), (a8, .inl (cI, 46, .inl g_cn_left)), (a9, .inl (cI, 46, .inl g_cn_right)), (a10, .inl (cI, 46, .inl g_cn_year)), (a5, .inl (cI, 6, .inl g_se_weight)), (a21, .inl (cI, 6, .inl g_V_worn))]) (k_rV hC hN hZ hS hA hK hP hD (c87_X4_leastShowing l G cI cJ cB cZ a0 a1 a2 a3 a4 a5 a6 a7 a15 a16 a17 a18 a19 a20 a21 a22 a23 a24 a25 z9 v_se_7 v_se_8 v_se_9 v_se_10 v_V_0 v_V_1 v_V_2 v_V_5 hv_4 hv_5 hv_8 hv_9 hv_10 hv_11 hv_12 hv_13) [7, 8] rfl (by decide +kernel) mi_X4_leastShowing in_X4_leastShowing se_X4_leastShowing wm_X4_142 4 7 rfl rfl rfl hl.1 rfl rfl (Nat.le_of_ble_eq_true rfl) ⟨(Nat.le_of_ble_eq_true rfl), (Nat.le_of_ble_eq_true rfl)⟩ dX4_narrow_111 ⟨(Nat.le_of_ble_eq_true rfl), (Nat.le_of_ble_eq_true rfl)⟩) hP hD hS hA [7, 8] [0, 1, 2, 3, 4, 5, 6] rfl rfl (by decide +kernel) (by decide +kernel) (fun r10 u10 H locs hp hP hD hS => ?_)
    have hp : (True) := hp
    have hP : va_P G cl [(a12, .inl (cI, 46, .inl g_cn_how)), (a3, .inr (8, [.ref a8, .ref a9, .ref a10, .ref a11, .ref a12, .ref a13, .ref a14, .int v_cn_7])), (a8, .inl (cI, 46, .inl g_cn_left)), (a9, .inl (cI, 46, .inl g_cn_right)), (a10, .inl (cI, 46, .inl g_cn_year)), (a5, .inl (cI, 6, .inl g_se_weight)), (a21, .inl (cI, 6, .inl g_V_worn)), (a0, .inr (4, [.ref a1, .ref a2, .ref a3, .ref a4, .ref a5, .ref a6, .ref a7, .int v_se_7, .int v_se_8, .int v_se_9, .int v_se_10])), (a1, .inr (7, [.int v_V_0, .int v_V_1, .int v_V_2, .ref a15, .ref a16, .int v_V_5, .ref a17, .ref a18, .ref a19, .ref a20, .ref a21, .ref a22, .ref a23, .ref a24, .ref a25]))] H := hP
    have hD : va_D A [(a12, .inl (cI, 46, .inl g_cn_how)), (a3, .inr (8, [.ref a8, .ref a9, .ref a10, .ref a11, .ref a12, .ref a13, .ref a14, .int v_cn_7])), (a8, .inl (cI, 46, .inl g_cn_left)), (a9, .inl (cI, 46, .inl g_cn_right)), (a10, .inl (cI, 46, .inl g_cn_year)), (a5, .inl (cI, 6, .inl g_se_weight)), (a21, .inl (cI, 6, .inl g_V_worn)), (a0, .inr (4, [.ref a1, .ref a2, .ref a3, .ref a4, .ref a5, .ref a6, .ref a7, .int v_se_7, .int v_se_8, .int v_se_9, .int v_se_10])), (a1, .inr (7, [.int v_V_0, .int v_V_1, .int v_V_2, .ref a15, .ref a16, .int v_V_5, .ref a17, .ref a18, .ref a19, .ref a20, .ref a21, .ref a22, .ref a23, .ref a24, .ref a25]))] := hD
    have hq10 := hp
    refine lv_isub hx hb dX4_narrow_114 ?_
    refine lv_topi (fun z11 _ => ?_)
    refine lv_istore (lv' := [(7, .int z11), (6, .int z8), (5, .int r5), (4, .int 0), (3, .int z1), (0, .ref a0), (1, .int b1), (2, .int b2)]) hx hb dX4_narrow_115 hl (by decide) rfl (fun ls hl => ?_)
    refine lv_iload hx hb dX4_narrow_117 (lv_at hl 3 rfl) ?_
    refine lv_if_eq (tgt := 127) hx hb dX4_narrow_119 (by decide) (fun _ => ?_) (fun c_ => absurd (by decide +kernel) c_)
    refine lv_iconst (v := 1) hx hb dX4_narrow_127 (by decide) ?_
    refine lv_aload_n hx hb dX4_narrow_128 rfl (lv_at hl 5 rfl) ?_
    refine k_get hC hK hP iX4 7 7 wf_X4_47 rfl (by decide) rfl rfl dX4_narrow_129 ?_
    refine va_mmax hx hb (hml.trans hl.1.symm) hown (hts _ wm_X4_148) (hts _ st_Mmax) (hts _ ini_Math) (hts _ co_Mmax) (Nat.le_of_ble_eq_true rfl) (Nat.le_of_ble_eq_true rfl) (Nat.le_of_ble_eq_true rfl) (Nat.le_of_ble_eq_true rfl) dX4_narrow_132 ?_
    refine t_i (fun q => 1 ≤ q.toInt ∧ v_se_7.toInt ≤ q.toInt ∧ (q.toInt = 1 ∨ q.toInt = v_se_7.toInt)) (max_b 1 v_se_7) (fun z12 tz12 => ?_)
    refine lv_istore (lv' := [(8, .int z12), (7, .int z11), (6, .int z8), (5, .int r5), (4, .int 0), (3, .int z1), (0, .ref a0), (1, .int b1), (2, .int b2)]) hx hb dX4_narrow_135 hl (by decide) rfl (fun ls hl => ?_)
    refine lv_iload hx hb dX4_narrow_137 (lv_at hl 2 rfl) ?_
    refine lv_ineg hx hb dX4_narrow_139 ?_
    refine lv_topi (fun z13 _ => ?_)
    refine lv_iload hx hb dX4_narrow_140 (lv_at hl 0 rfl) ?_
    refine k_ci (wr := [(a12, .inl (cI, 46, .inl g_cn_how)), (a3, .inr (8, [.ref a8, .ref a9, .ref a10, .ref a11, .ref a12, .ref a13, .ref a14, .int v_cn_7])), (a8, .inl (cI, 46, .inl g_cn_left)), (a9, .inl (cI, 46, .inl g_cn_right)), (a10, .inl (cI, 46, .inl g_cn_year)), (a5, .inl (cI, 6, .inl g_se_weight)), (a21, .inl (cI, 6, .inl g_V_worn)), (a0, .inr (4, [.ref a1, .ref a2, .ref a3, .ref a4, .ref a5, .ref a6, .ref a7, .int v_se_7, .int v_se_8, .int v_se_9, .int v_se_10])), (a1, .inr (7, [.int v_V_0, .int v_V_1, .int v_V_2, .ref a15, .ref a16, .int v_V_5, .ref a17, .ref a18, .ref a19, .ref a20, .ref a21, .ref a22, .ref a23, .ref a24, .ref a25]))]) (k_rS hC hN hZ hS hA hK hP hD (c43_J9_floorDiv_7cf53 l G cI cJ cB cZ z13 z12 (by omega)) [] rfl (by decide +kernel) mi_J9_floorDiv_7cf53 st_J9_floorDiv_7cf53 wm_X4_153 hl.1 rfl rfl (Nat.le_of_ble_eq_true rfl) ⟨(Nat.le_of_ble_eq_true rfl), (Nat.le_of_ble_eq_true rfl)⟩ dX4_narrow_142 ⟨(Nat.le_of_ble_eq_true rfl), (Nat.le_of_ble_eq_true rfl)⟩) hP hD hS hA [] [0, 1, 2, 3, 4, 5, 6, 7, 8] rfl rfl (by decide +kernel) (by decide +kernel) (fun r14 u14 H locs hp hP hD hS => ?_)
    have hp : (True) := hp
    have hP : va_P G cl [(a12, .inl (cI, 46, .inl g_cn_how)), (a3, .inr (8, [.ref a8, .ref a9, .ref a10, .ref a11, .ref a12, .ref a13, .ref a14, .int v_cn_7])), (a8, .inl (cI, 46, .inl g_cn_left)), (a9, .inl (cI, 46, .inl g_cn_right)), (a10, .inl (cI, 46, .inl g_cn_year)), (a5, .inl (cI, 6, .inl g_se_weight)), (a21, .inl (cI, 6, .inl g_V_worn)), (a0, .inr (4, [.ref a1, .ref a2, .ref a3, .ref a4, .ref a5, .ref a6, .ref a7, .int v_se_7, .int v_se_8, .int v_se_9, .int v_se_10])), (a1, .inr (7, [.int v_V_0, .int v_V_1, .int v_V_2, .ref a15, .ref a16, .int v_V_5, .ref a17, .ref a18, .ref a19, .ref a20, .ref a21, .ref a22, .ref a23, .ref a24, .ref a25]))] H := hP
    have hD : va_D A [(a12, .inl (cI, 46, .inl g_cn_how)), (a3, .inr (8, [.ref a8, .ref a9, .ref a10, .ref a11, .ref a12, .ref a13, .ref a14, .int v_cn_7])), (a8, .inl (cI, 46, .inl g_cn_left)), (a9, .inl (cI, 46, .inl g_cn_right)), (a10, .inl (cI, 46, .inl g_cn_year)), (a5, .inl (cI, 6, .inl g_se_weight)), (a21, .inl (cI, 6, .inl g_V_worn)), (a0, .inr (4, [.ref a1, .ref a2, .ref a3, .ref a4, .ref a5, .ref a6, .ref a7, .int v_se_7, .int v_se_8, .int v_se_9, .int v_se_10])), (a1, .inr (7, [.int v_V_0, .int v_V_1, .int v_V_2, .ref a15, .ref a16, .int v_V_5, .ref a17, .ref a18, .ref a19, .ref a20, .ref a21, .ref a22, .ref a23, .ref a24, .ref a25]))] := hD
    have hq14 := hp
    refine lv_ineg hx hb dX4_narrow_145 ?_
    refine lv_topi (fun z15 _ => ?_)
    refine lv_istore (lv' := [(9, .int z15), (8, .int z12), (7, .int z11), (6, .int z8), (5, .int r5), (4, .int 0), (3, .int z1), (0, .ref a0), (1, .int b1), (2, .int b2)]) hx hb dX4_narrow_146 hl (by decide) rfl (fun ls hl => ?_)
    refine lv_iload hx hb dX4_narrow_148 (lv_at hl 2 rfl) ?_
    refine lv_iload hx hb dX4_narrow_150 (lv_at hl 1 rfl) ?_
    refine k_ci (wr := [(a12, .inl (cI, 46, .inl g_cn_how)), (a3, .inr (8, [.ref a8, .ref a9, .ref a10, .ref a11, .ref a12, .ref a13, .ref a14, .int v_cn_7])), (a8, .inl (cI, 46, .inl g_cn_left)), (a9, .inl (cI, 46, .inl g_cn_right)), (a10, .inl (cI, 46, .inl g_cn_year)), (a5, .inl (cI, 6, .inl g_se_weight)), (a21, .inl (cI, 6, .inl g_V_worn)), (a0, .inr (4, [.ref a1, .ref a2, .ref a3, .ref a4, .ref a5, .ref a6, .ref a7, .int v_se_7, .int v_se_8, .int v_se_9, .int v_se_10])), (a1, .inr (7, [.int v_V_0, .int v_V_1, .int v_V_2, .ref a15, .ref a16, .int v_V_5, .ref a17, .ref a18, .ref a19, .ref a20, .ref a21, .ref a22, .ref a23, .ref a24, .ref a25]))]) (k_rS hC hN hZ hS hA hK hP hD (c43_J9_floorDiv_7cf53 l G cI cJ cB cZ z11 z12 (by omega)) [] rfl (by decide +kernel) mi_J9_floorDiv_7cf53 st_J9_floorDiv_7cf53 wm_X4_153 hl.1 rfl rfl (Nat.le_of_ble_eq_true rfl) ⟨(Nat.le_of_ble_eq_true rfl), (Nat.le_of_ble_eq_true rfl)⟩ dX4_narrow_152 ⟨(Nat.le_of_ble_eq_true rfl), (Nat.le_of_ble_eq_true rfl)⟩) hP hD hS hA [] [0, 1, 2, 3, 4, 5, 6, 7, 8] rfl rfl (by decide +kernel) (by decide +kernel) (fun r16 u16 H locs hp hP hD hS => ?_)
    have hp : (True) := hp
    have hP : va_P G cl [(a12, .inl (cI, 46, .inl g_cn_how)), (a3, .inr (8, [.ref a8, .ref a9, .ref a10, .ref a11, .ref a12, .ref a13, .ref a14, .int v_cn_7])), (a8, .inl (cI, 46, .inl g_cn_left)), (a9, .inl (cI, 46, .inl g_cn_right)), (a10, .inl (cI, 46, .inl g_cn_year)), (a5, .inl (cI, 6, .inl g_se_weight)), (a21, .inl (cI, 6, .inl g_V_worn)), (a0, .inr (4, [.ref a1, .ref a2, .ref a3, .ref a4, .ref a5, .ref a6, .ref a7, .int v_se_7, .int v_se_8, .int v_se_9, .int v_se_10])), (a1, .inr (7, [.int v_V_0, .int v_V_1, .int v_V_2, .ref a15, .ref a16, .int v_V_5, .ref a17, .ref a18, .ref a19, .ref a20, .ref a21, .ref a22, .ref a23, .ref a24, .ref a25]))] H := hP
    have hD : va_D A [(a12, .inl (cI, 46, .inl g_cn_how)), (a3, .inr (8, [.ref a8, .ref a9, .ref a10, .ref a11, .ref a12, .ref a13, .ref a14, .int v_cn_7])), (a8, .inl (cI, 46, .inl g_cn_left)), (a9, .inl (cI, 46, .inl g_cn_right)), (a10, .inl (cI, 46, .inl g_cn_year)), (a5, .inl (cI, 6, .inl g_se_weight)), (a21, .inl (cI, 6, .inl g_V_worn)), (a0, .inr (4, [.ref a1, .ref a2, .ref a3, .ref a4, .ref a5, .ref a6, .ref a7, .int v_se_7, .int v_se_8, .int v_se_9, .int v_se_10])), (a1, .inr (7, [.int v_V_0, .int v_V_1, .int v_V_2, .ref a15, .ref a16, .int v_V_5, .ref a17, .ref a18, .ref a19, .ref a20, .ref a21, .ref a22, .ref a23, .ref a24, .ref a25]))] := hD
    have hq16 := hp
    refine lv_istore (lv' := [(10, .int r16), (9, .int z15), (8, .int z12), (7, .int z11), (6, .int z8), (5, .int r5), (4, .int 0), (3, .int z1), (0, .ref a0), (1, .int b1), (2, .int b2)]) hx hb dX4_narrow_155 hl (by decide) rfl (fun ls hl => ?_)
    refine lv_aload_n hx hb dX4_narrow_157 rfl (lv_at hl 8 rfl) ?_
    refine k_get hC hK hP iX4 7 0 wf_X4_12 rfl (by decide) rfl rfl dX4_narrow_158 ?_
    refine k_getN hC hN hK hP iX7 8 10 wf_X4_156 rfl (by decide) rfl rfl dX4_narrow_161 ?_
    refine lv_iload_n hx hb dX4_narrow_164 rfl (lv_at hl 10 rfl) ?_
    refine t_iald hC hK hP 6 rfl (by omega) (by omega) (TA.all _) dX4_narrow_165 (fun z17 tz17 => ?_)
    refine lv_aload_n hx hb dX4_narrow_166 rfl (lv_at hl 8 rfl) ?_
    refine k_get hC hK hP iX4 7 2 wf_X4_30 rfl (by decide) rfl rfl dX4_narrow_167 ?_
    refine k_getN hC hN hK hP iX8 1 2 wf_X4_159 rfl (by decide) rfl rfl dX4_narrow_170 ?_
    refine lv_iload_n hx hb dX4_narrow_173 rfl (lv_at hl 9 rfl) ?_
    refine t_iald hC hK hP 4 rfl (by omega) (by omega) (TA.all _) dX4_narrow_174 (fun z18 tz18 => ?_)
    refine lv_imul hx hb dX4_narrow_175 ?_
    refine lv_topi (fun z19 _ => ?_)
    refine lv_istore (lv' := [(11, .int z19), (10, .int r16), (9, .int z15), (8, .int z12), (7, .int z11), (6, .int z8), (5, .int r5), (4, .int 0), (3, .int z1), (0, .ref a0), (1, .int b1), (2, .int b2)]) hx hb dX4_narrow_176 hl (by decide) rfl (fun ls hl => ?_)
    refine lv_iload hx hb dX4_narrow_178 (lv_at hl 2 rfl) ?_
    refine lv_if_le (tgt := 199) hx hb dX4_narrow_180 (by decide) (fun c20 => ?_) (fun c20 => ?_)
    · have dc20 : z15.toInt ≤ 0 := (fa_le _ _).mp c20; have lbc20_0 := i_lo z15; have ubc20_0 := i_hi z15
      refine lv_aload_n hx hb dX4_narrow_199 rfl (lv_at hl 9 rfl) ?_
      refine lv_iload hx hb dX4_narrow_200 (lv_at hl 1 rfl) ?_
      refine lv_if_ge (tgt := 214) hx hb dX4_narrow_202 (by decide) (fun c21 => ?_) (fun c21 => ?_)
      · have dc21 : 0 ≤ r16.toInt := (fa_le _ _).mp c21; have lbc21_1 := i_lo r16; have ubc21_1 := i_hi r16
        refine lv_aload_n hx hb dX4_narrow_214 rfl (lv_at hl 9 rfl) ?_
        refine k_get hC hK hP iX4 7 9 wf_X4_54 rfl (by decide) rfl rfl dX4_narrow_215 ?_
        refine lv_iload hx hb dX4_narrow_218 (lv_at hl 1 rfl) ?_
        refine lv_iload hx hb dX4_narrow_220 (lv_at hl 0 rfl) ?_
        refine lv_iadd hx hb dX4_narrow_222 ?_
        refine lv_topi (fun z22 _ => ?_)
        refine va_mmin hx hb (hml.trans hl.1.symm) hown (hts _ wm_X4_162) (hts _ st_Mmin) (hts _ ini_Math) (hts _ co_Mmin) (Nat.le_of_ble_eq_true rfl) (Nat.le_of_ble_eq_true rfl) (Nat.le_of_ble_eq_true rfl) (Nat.le_of_ble_eq_true rfl) dX4_narrow_223 ?_
        refine t_i (fun q => q.toInt ≤ v_se_9.toInt ∧ q.toInt ≤ z22.toInt ∧ (q.toInt = v_se_9.toInt ∨ q.toInt = z22.toInt)) (min_b v_se_9 z22) (fun z23 tz23 => ?_)
        refine k_put hC hK hP hD hS iX4 tyX4_ok nmX4 7 9 wf_X4_54 rfl (by decide) rfl rfl rfl rfl (Nat.le_of_ble_eq_true rfl) dX4_narrow_226 (fun H locs hP hD hS => ?_)
        have hP : va_P G cl [(a12, .inl (cI, 46, .inl g_cn_how)), (a3, .inr (8, [.ref a8, .ref a9, .ref a10, .ref a11, .ref a12, .ref a13, .ref a14, .int v_cn_7])), (a8, .inl (cI, 46, .inl g_cn_left)), (a9, .inl (cI, 46, .inl g_cn_right)), (a10, .inl (cI, 46, .inl g_cn_year)), (a5, .inl (cI, 6, .inl g_se_weight)), (a21, .inl (cI, 6, .inl g_V_worn)), (a0, .inr (4, [.ref a1, .ref a2, .ref a3, .ref a4, .ref a5, .ref a6, .ref a7, .int v_se_7, .int v_se_8, .int z23, .int v_se_10])), (a1, .inr (7, [.int v_V_0, .int v_V_1, .int v_V_2, .ref a15, .ref a16, .int v_V_5, .ref a17, .ref a18, .ref a19, .ref a20, .ref a21, .ref a22, .ref a23, .ref a24, .ref a25]))] H := hP
        have hD : va_D A [(a12, .inl (cI, 46, .inl g_cn_how)), (a3, .inr (8, [.ref a8, .ref a9, .ref a10, .ref a11, .ref a12, .ref a13, .ref a14, .int v_cn_7])), (a8, .inl (cI, 46, .inl g_cn_left)), (a9, .inl (cI, 46, .inl g_cn_right)), (a10, .inl (cI, 46, .inl g_cn_year)), (a5, .inl (cI, 6, .inl g_se_weight)), (a21, .inl (cI, 6, .inl g_V_worn)), (a0, .inr (4, [.ref a1, .ref a2, .ref a3, .ref a4, .ref a5, .ref a6, .ref a7, .int v_se_7, .int v_se_8, .int z23, .int v_se_10])), (a1, .inr (7, [.int v_V_0, .int v_V_1, .int v_V_2, .ref a15, .ref a16, .int v_V_5, .ref a17, .ref a18, .ref a19, .ref a20, .ref a21, .ref a22, .ref a23, .ref a24, .ref a25]))] := hD
        rw [← hQm]
        exact k_vret hC hr hlk hK hP hD hS (v_se_8, z23) [7, 1, 2, 3, 4, 8, 5, 6, 0] rfl (by decide +kernel) ⟨(show 0 ≤ v_se_8.toInt ∧ z23.toInt ≤ 2147483646 from by omega), (show NR (v_se_8 : Int32).toInt (v_se_9 : Int32).toInt (v_se_8 : Int32).toInt (z23 : Int32).toInt from by unfold NR; omega)⟩ (Nat.le_of_ble_eq_true rfl) (Nat.le_of_ble_eq_true rfl) dX4_narrow_229
      · have dc21 : r16.toInt < 0 := fa_nle c21; have lbc21_1 := i_lo r16; have ubc21_1 := i_hi r16
        refine lv_aload_n hx hb dX4_narrow_205 rfl (lv_at hl 9 rfl) ?_
        refine k_get hC hK hP iX4 7 8 wf_X4_51 rfl (by decide) rfl rfl dX4_narrow_206 ?_
        refine lv_iconst (v := 1) hx hb dX4_narrow_209 (by decide) ?_
        refine lv_isub hx hb dX4_narrow_210 ?_
        have ubz24_0 := i_hi v_se_8
        refine t_i (fun q => q.toInt = v_se_8.toInt - 1) (sub_i (by have q_ := i_hi v_se_8; show (-2147483648 : Int) ≤ v_se_8.toInt - 1; omega) (by have q_ := i_hi v_se_8; show v_se_8.toInt - 1 ≤ (2147483647 : Int); omega)) (fun z24 tz24 => ?_)
        refine lv_goto (tgt := 226) hx hb dX4_narrow_211 (by decide) ?_
        refine k_put hC hK hP hD hS iX4 tyX4_ok nmX4 7 9 wf_X4_54 rfl (by decide) rfl rfl rfl rfl (Nat.le_of_ble_eq_true rfl) dX4_narrow_226 (fun H locs hP hD hS => ?_)
        have hP : va_P G cl [(a12, .inl (cI, 46, .inl g_cn_how)), (a3, .inr (8, [.ref a8, .ref a9, .ref a10, .ref a11, .ref a12, .ref a13, .ref a14, .int v_cn_7])), (a8, .inl (cI, 46, .inl g_cn_left)), (a9, .inl (cI, 46, .inl g_cn_right)), (a10, .inl (cI, 46, .inl g_cn_year)), (a5, .inl (cI, 6, .inl g_se_weight)), (a21, .inl (cI, 6, .inl g_V_worn)), (a0, .inr (4, [.ref a1, .ref a2, .ref a3, .ref a4, .ref a5, .ref a6, .ref a7, .int v_se_7, .int v_se_8, .int z24, .int v_se_10])), (a1, .inr (7, [.int v_V_0, .int v_V_1, .int v_V_2, .ref a15, .ref a16, .int v_V_5, .ref a17, .ref a18, .ref a19, .ref a20, .ref a21, .ref a22, .ref a23, .ref a24, .ref a25]))] H := hP
        have hD : va_D A [(a12, .inl (cI, 46, .inl g_cn_how)), (a3, .inr (8, [.ref a8, .ref a9, .ref a10, .ref a11, .ref a12, .ref a13, .ref a14, .int v_cn_7])), (a8, .inl (cI, 46, .inl g_cn_left)), (a9, .inl (cI, 46, .inl g_cn_right)), (a10, .inl (cI, 46, .inl g_cn_year)), (a5, .inl (cI, 6, .inl g_se_weight)), (a21, .inl (cI, 6, .inl g_V_worn)), (a0, .inr (4, [.ref a1, .ref a2, .ref a3, .ref a4, .ref a5, .ref a6, .ref a7, .int v_se_7, .int v_se_8, .int z24, .int v_se_10])), (a1, .inr (7, [.int v_V_0, .int v_V_1, .int v_V_2, .ref a15, .ref a16, .int v_V_5, .ref a17, .ref a18, .ref a19, .ref a20, .ref a21, .ref a22, .ref a23, .ref a24, .ref a25]))] := hD
        rw [← hQm]
        exact k_vret hC hr hlk hK hP hD hS (v_se_8, z24) [7, 1, 2, 3, 4, 8, 5, 6, 0] rfl (by decide +kernel) ⟨(show 0 ≤ v_se_8.toInt ∧ z24.toInt ≤ 2147483646 from by omega), (show NR (v_se_8 : Int32).toInt (v_se_9 : Int32).toInt (v_se_8 : Int32).toInt (z24 : Int32).toInt from by unfold NR; omega)⟩ (Nat.le_of_ble_eq_true rfl) (Nat.le_of_ble_eq_true rfl) dX4_narrow_229
    · have dc20 : 0 < z15.toInt := fa_nle c20; have lbc20_0 := i_lo z15; have ubc20_0 := i_hi z15
      refine lv_aload_n hx hb dX4_narrow_183 rfl (lv_at hl 9 rfl) ?_
      refine lv_aload_n hx hb dX4_narrow_184 rfl (lv_at hl 9 rfl) ?_
      refine k_get hC hK hP iX4 7 8 wf_X4_51 rfl (by decide) rfl rfl dX4_narrow_185 ?_
      refine lv_iload hx hb dX4_narrow_188 (lv_at hl 2 rfl) ?_
      refine lv_iload hx hb dX4_narrow_190 (lv_at hl 0 rfl) ?_
      refine lv_iadd hx hb dX4_narrow_192 ?_
      refine lv_topi (fun z25 _ => ?_)
      refine va_mmax hx hb (hml.trans hl.1.symm) hown (hts _ wm_X4_148) (hts _ st_Mmax) (hts _ ini_Math) (hts _ co_Mmax) (Nat.le_of_ble_eq_true rfl) (Nat.le_of_ble_eq_true rfl) (Nat.le_of_ble_eq_true rfl) (Nat.le_of_ble_eq_true rfl) dX4_narrow_193 ?_
      refine t_i (fun q => v_se_8.toInt ≤ q.toInt ∧ z25.toInt ≤ q.toInt ∧ (q.toInt = v_se_8.toInt ∨ q.toInt = z25.toInt)) (max_b v_se_8 z25) (fun z26 tz26 => ?_)
      refine k_put hC hK hP hD hS iX4 tyX4_ok nmX4 7 8 wf_X4_51 rfl (by decide) rfl rfl rfl rfl (Nat.le_of_ble_eq_true rfl) dX4_narrow_196 (fun H locs hP hD hS => ?_)
      have hP : va_P G cl [(a12, .inl (cI, 46, .inl g_cn_how)), (a3, .inr (8, [.ref a8, .ref a9, .ref a10, .ref a11, .ref a12, .ref a13, .ref a14, .int v_cn_7])), (a8, .inl (cI, 46, .inl g_cn_left)), (a9, .inl (cI, 46, .inl g_cn_right)), (a10, .inl (cI, 46, .inl g_cn_year)), (a5, .inl (cI, 6, .inl g_se_weight)), (a21, .inl (cI, 6, .inl g_V_worn)), (a0, .inr (4, [.ref a1, .ref a2, .ref a3, .ref a4, .ref a5, .ref a6, .ref a7, .int v_se_7, .int z26, .int v_se_9, .int v_se_10])), (a1, .inr (7, [.int v_V_0, .int v_V_1, .int v_V_2, .ref a15, .ref a16, .int v_V_5, .ref a17, .ref a18, .ref a19, .ref a20, .ref a21, .ref a22, .ref a23, .ref a24, .ref a25]))] H := hP
      have hD : va_D A [(a12, .inl (cI, 46, .inl g_cn_how)), (a3, .inr (8, [.ref a8, .ref a9, .ref a10, .ref a11, .ref a12, .ref a13, .ref a14, .int v_cn_7])), (a8, .inl (cI, 46, .inl g_cn_left)), (a9, .inl (cI, 46, .inl g_cn_right)), (a10, .inl (cI, 46, .inl g_cn_year)), (a5, .inl (cI, 6, .inl g_se_weight)), (a21, .inl (cI, 6, .inl g_V_worn)), (a0, .inr (4, [.ref a1, .ref a2, .ref a3, .ref a4, .ref a5, .ref a6, .ref a7, .int v_se_7, .int z26, .int v_se_9, .int v_se_10])), (a1, .inr (7, [.int v_V_0, .int v_V_1, .int v_V_2, .ref a15, .ref a16, .int v_V_5, .ref a17, .ref a18, .ref a19, .ref a20, .ref a21, .ref a22, .ref a23, .ref a24, .ref a25]))] := hD
      refine lv_aload_n hx hb dX4_narrow_199 rfl (lv_at hl 9 rfl) ?_
      refine lv_iload hx hb dX4_narrow_200 (lv_at hl 1 rfl) ?_
      refine lv_if_ge (tgt := 214) hx hb dX4_narrow_202 (by decide) (fun c27 => ?_) (fun c27 => ?_)
      · have dc27 : 0 ≤ r16.toInt := (fa_le _ _).mp c27; have lbc27_1 := i_lo r16; have ubc27_1 := i_hi r16
        refine lv_aload_n hx hb dX4_narrow_214 rfl (lv_at hl 9 rfl) ?_
        refine k_get hC hK hP iX4 7 9 wf_X4_54 rfl (by decide) rfl rfl dX4_narrow_215 ?_
        refine lv_iload hx hb dX4_narrow_218 (lv_at hl 1 rfl) ?_
        refine lv_iload hx hb dX4_narrow_220 (lv_at hl 0 rfl) ?_
        refine lv_iadd hx hb dX4_narrow_222 ?_
        refine lv_topi (fun z28 _ => ?_)
        refine va_mmin hx hb (hml.trans hl.1.symm) hown (hts _ wm_X4_162) (hts _ st_Mmin) (hts _ ini_Math) (hts _ co_Mmin) (Nat.le_of_ble_eq_true rfl) (Nat.le_of_ble_eq_true rfl) (Nat.le_of_ble_eq_true rfl) (Nat.le_of_ble_eq_true rfl) dX4_narrow_223 ?_
        refine t_i (fun q => q.toInt ≤ v_se_9.toInt ∧ q.toInt ≤ z28.toInt ∧ (q.toInt = v_se_9.toInt ∨ q.toInt = z28.toInt)) (min_b v_se_9 z28) (fun z29 tz29 => ?_)
        refine k_put hC hK hP hD hS iX4 tyX4_ok nmX4 7 9 wf_X4_54 rfl (by decide) rfl rfl rfl rfl (Nat.le_of_ble_eq_true rfl) dX4_narrow_226 (fun H locs hP hD hS => ?_)
        have hP : va_P G cl [(a12, .inl (cI, 46, .inl g_cn_how)), (a3, .inr (8, [.ref a8, .ref a9, .ref a10, .ref a11, .ref a12, .ref a13, .ref a14, .int v_cn_7])), (a8, .inl (cI, 46, .inl g_cn_left)), (a9, .inl (cI, 46, .inl g_cn_right)), (a10, .inl (cI, 46, .inl g_cn_year)), (a5, .inl (cI, 6, .inl g_se_weight)), (a21, .inl (cI, 6, .inl g_V_worn)), (a0, .inr (4, [.ref a1, .ref a2, .ref a3, .ref a4, .ref a5, .ref a6, .ref a7, .int v_se_7, .int z26, .int z29, .int v_se_10])), (a1, .inr (7, [.int v_V_0, .int v_V_1, .int v_V_2, .ref a15, .ref a16, .int v_V_5, .ref a17, .ref a18, .ref a19, .ref a20, .ref a21, .ref a22, .ref a23, .ref a24, .ref a25]))] H := hP
        have hD : va_D A [(a12, .inl (cI, 46, .inl g_cn_how)), (a3, .inr (8, [.ref a8, .ref a9, .ref a10, .ref a11, .ref a12, .ref a13, .ref a14, .int v_cn_7])), (a8, .inl (cI, 46, .inl g_cn_left)), (a9, .inl (cI, 46, .inl g_cn_right)), (a10, .inl (cI, 46, .inl g_cn_year)), (a5, .inl (cI, 6, .inl g_se_weight)), (a21, .inl (cI, 6, .inl g_V_worn)), (a0, .inr (4, [.ref a1, .ref a2, .ref a3, .ref a4, .ref a5, .ref a6, .ref a7, .int v_se_7, .int z26, .int z29, .int v_se_10])), (a1, .inr (7, [.int v_V_0, .int v_V_1, .int v_V_2, .ref a15, .ref a16, .int v_V_5, .ref a17, .ref a18, .ref a19, .ref a20, .ref a21, .ref a22, .ref a23, .ref a24, .ref a25]))] := hD
        rw [← hQm]
        exact k_vret hC hr hlk hK hP hD hS (z26, z29) [7, 1, 2, 3, 4, 8, 5, 6, 0] rfl (by decide +kernel) ⟨(show 0 ≤ z26.toInt ∧ z29.toInt ≤ 2147483646 from by omega), (show NR (v_se_8 : Int32).toInt (v_se_9 : Int32).toInt (z26 : Int32).toInt (z29 : Int32).toInt from by unfold NR; omega)⟩ (Nat.le_of_ble_eq_true rfl) (Nat.le_of_ble_eq_true rfl) dX4_narrow_229
      · have dc27 : r16.toInt < 0 := fa_nle c27; have lbc27_1 := i_lo r16; have ubc27_1 := i_hi r16
        refine lv_aload_n hx hb dX4_narrow_205 rfl (lv_at hl 9 rfl) ?_
        refine k_get hC hK hP iX4 7 8 wf_X4_51 rfl (by decide) rfl rfl dX4_narrow_206 ?_
        refine lv_iconst (v := 1) hx hb dX4_narrow_209 (by decide) ?_
        refine lv_isub hx hb dX4_narrow_210 ?_
        have ubz30_0 := i_hi z26
        refine t_i (fun q => q.toInt = z26.toInt - 1) (sub_i (by have q_ := i_hi z26; show (-2147483648 : Int) ≤ z26.toInt - 1; omega) (by have q_ := i_hi z26; show z26.toInt - 1 ≤ (2147483647 : Int); omega)) (fun z30 tz30 => ?_)
        refine lv_goto (tgt := 226) hx hb dX4_narrow_211 (by decide) ?_
        refine k_put hC hK hP hD hS iX4 tyX4_ok nmX4 7 9 wf_X4_54 rfl (by decide) rfl rfl rfl rfl (Nat.le_of_ble_eq_true rfl) dX4_narrow_226 (fun H locs hP hD hS => ?_)
        have hP : va_P G cl [(a12, .inl (cI, 46, .inl g_cn_how)), (a3, .inr (8, [.ref a8, .ref a9, .ref a10, .ref a11, .ref a12, .ref a13, .ref a14, .int v_cn_7])), (a8, .inl (cI, 46, .inl g_cn_left)), (a9, .inl (cI, 46, .inl g_cn_right)), (a10, .inl (cI, 46, .inl g_cn_year)), (a5, .inl (cI, 6, .inl g_se_weight)), (a21, .inl (cI, 6, .inl g_V_worn)), (a0, .inr (4, [.ref a1, .ref a2, .ref a3, .ref a4, .ref a5, .ref a6, .ref a7, .int v_se_7, .int z26, .int z30, .int v_se_10])), (a1, .inr (7, [.int v_V_0, .int v_V_1, .int v_V_2, .ref a15, .ref a16, .int v_V_5, .ref a17, .ref a18, .ref a19, .ref a20, .ref a21, .ref a22, .ref a23, .ref a24, .ref a25]))] H := hP
        have hD : va_D A [(a12, .inl (cI, 46, .inl g_cn_how)), (a3, .inr (8, [.ref a8, .ref a9, .ref a10, .ref a11, .ref a12, .ref a13, .ref a14, .int v_cn_7])), (a8, .inl (cI, 46, .inl g_cn_left)), (a9, .inl (cI, 46, .inl g_cn_right)), (a10, .inl (cI, 46, .inl g_cn_year)), (a5, .inl (cI, 6, .inl g_se_weight)), (a21, .inl (cI, 6, .inl g_V_worn)), (a0, .inr (4, [.ref a1, .ref a2, .ref a3, .ref a4, .ref a5, .ref a6, .ref a7, .int v_se_7, .int z26, .int z30, .int v_se_10])), (a1, .inr (7, [.int v_V_0, .int v_V_1, .int v_V_2, .ref a15, .ref a16, .int v_V_5, .ref a17, .ref a18, .ref a19, .ref a20, .ref a21, .ref a22, .ref a23, .ref a24, .ref a25]))] := hD
        rw [← hQm]
        exact k_vret hC hr hlk hK hP hD hS (z26, z30) [7, 1, 2, 3, 4, 8, 5, 6, 0] rfl (by decide +kernel) ⟨(show 0 ≤ z26.toInt ∧ z30.toInt ≤ 2147483646 from by omega), (show NR (v_se_8 : Int32).toInt (v_se_9 : Int32).toInt (z26 : Int32).toInt (z30 : Int32).toInt from by unfold NR; omega)⟩ (Nat.le_of_ble_eq_true rfl) (Nat.le_of_ble_eq_true rfl) dX4_narrow_229
  · have dc4 : z3.toInt ≠ 0 := fa_ne c4
    refine lv_iconst (v := 1) hx hb dX4_narrow_18 (by decide) ?_
    refine lv_goto (tgt := 23) hx hb dX4_narrow_19 (by decide) ?_
    refine lv_istore (lv' := [(4, .int 1), (3, .int z1), (0, .ref a0), (1, .int b1), (2, .int b2)]) hx hb dX4_narrow_23 hl (by decide) rfl (fun ls hl => ?_)
    refine lv_aload_n hx hb dX4_narrow_25 rfl (lv_at hl 2 rfl) ?_
    refine lv_iload_n hx hb dX4_narrow_26 rfl (lv_at hl 3 rfl) ?_
    refine lv_iload_n hx hb dX4_narrow_27 rfl (lv_at hl 1 rfl) ?_
    refine k_ci (wr := [(a12, .inl (cI, 46, .inl g_cn_how))]) (k_rV hC hN hZ hS hA hK hP hD (c85_X4_differenceOf l G cI cJ cB cZ a0 a1 a2 a3 a4 a5 a6 a7 a8 a9 a10 a11 a12 a13 a14 a15 a16 a17 a18 a19 a20 a21 a22 a23 a24 a25 b1 z1 v_se_7 v_se_8 v_se_9 v_se_10 v_cn_7 v_V_0 v_V_1 v_V_2 v_V_5 g_cn_left g_cn_right g_cn_year g_se_weight g_V_worn hv_0 hv_1 hv_4 hv_5 hv_6 hv_7 hv_8 hv_9 hv_10 hv_11 hv_12 hv_13) [0, 1, 2, 3, 4, 5, 6, 7] rfl (by decide +kernel) mi_X4_differenceOf in_X4_differenceOf se_X4_differenceOf wm_X4_136 4 0 rfl rfl rfl hl.1 rfl rfl (Nat.le_of_ble_eq_true rfl) ⟨(Nat.le_of_ble_eq_true rfl), (Nat.le_of_ble_eq_true rfl)⟩ dX4_narrow_28 ⟨(Nat.le_of_ble_eq_true rfl), (Nat.le_of_ble_eq_true rfl)⟩) hP hD hS hA [0, 1, 2, 3, 4, 5, 6, 7] [8] rfl rfl (by decide +kernel) (by decide +kernel) (fun r31 u31 H locs hp hP hD hS => ?_)
    have hp : (True) := hp
    have hP : va_P G cl [(a12, .inl (cI, 46, .inl g_cn_how)), (a0, .inr (4, [.ref a1, .ref a2, .ref a3, .ref a4, .ref a5, .ref a6, .ref a7, .int v_se_7, .int v_se_8, .int v_se_9, .int v_se_10])), (a3, .inr (8, [.ref a8, .ref a9, .ref a10, .ref a11, .ref a12, .ref a13, .ref a14, .int v_cn_7])), (a8, .inl (cI, 46, .inl g_cn_left)), (a9, .inl (cI, 46, .inl g_cn_right)), (a10, .inl (cI, 46, .inl g_cn_year)), (a1, .inr (7, [.int v_V_0, .int v_V_1, .int v_V_2, .ref a15, .ref a16, .int v_V_5, .ref a17, .ref a18, .ref a19, .ref a20, .ref a21, .ref a22, .ref a23, .ref a24, .ref a25])), (a5, .inl (cI, 6, .inl g_se_weight)), (a21, .inl (cI, 6, .inl g_V_worn))] H := hP
    have hD : va_D A [(a12, .inl (cI, 46, .inl g_cn_how)), (a0, .inr (4, [.ref a1, .ref a2, .ref a3, .ref a4, .ref a5, .ref a6, .ref a7, .int v_se_7, .int v_se_8, .int v_se_9, .int v_se_10])), (a3, .inr (8, [.ref a8, .ref a9, .ref a10, .ref a11, .ref a12, .ref a13, .ref a14, .int v_cn_7])), (a8, .inl (cI, 46, .inl g_cn_left)), (a9, .inl (cI, 46, .inl g_cn_right)), (a10, .inl (cI, 46, .inl g_cn_year)), (a1, .inr (7, [.int v_V_0, .int v_V_1, .int v_V_2, .ref a15, .ref a16, .int v_V_5, .ref a17, .ref a18, .ref a19, .ref a20, .ref a21, .ref a22, .ref a23, .ref a24, .ref a25])), (a5, .inl (cI, 6, .inl g_se_weight)), (a21, .inl (cI, 6, .inl g_V_worn))] := hD
    have hq31 := hp
    refine lv_istore (lv' := [(5, .int r31), (4, .int 1), (3, .int z1), (0, .ref a0), (1, .int b1), (2, .int b2)]) hx hb dX4_narrow_31 hl (by decide) rfl (fun ls hl => ?_)
    refine lv_iload hx hb dX4_narrow_33 (lv_at hl 1 rfl) ?_
    refine lv_if_eq (tgt := 57) hx hb dX4_narrow_35 (by decide) (fun c_ => absurd c_ (by decide +kernel)) (fun _ => ?_)
    refine lv_aload_n hx hb dX4_narrow_38 rfl (lv_at hl 3 rfl) ?_
    refine lv_aload_n hx hb dX4_narrow_39 rfl (lv_at hl 3 rfl) ?_
    refine k_get hC hK hP iX4 1 2 wf_X4_30 rfl (by decide) rfl rfl dX4_narrow_40 ?_
    refine k_getN hC hN hK hP iX8 2 4 wf_X4_139 rfl (by decide) rfl rfl dX4_narrow_43 ?_
    refine lv_iload_n hx hb dX4_narrow_46 rfl (lv_at hl 4 rfl) ?_
    refine t_iald hC hK hP 0 rfl (by omega) (by omega) (TA.all _) dX4_narrow_47 (fun z32 tz32 => ?_)
    refine k_ci (wr := [(a12, .inl (cI, 46, .inl g_cn_how)), (a3, .inr (8, [.ref a8, .ref a9, .ref a10, .ref a11, .ref a12, .ref a13, .ref a14, .int v_cn_7])), (a8, .inl (cI, 46, .inl g_cn_left)), (a9, .inl (cI, 46, .inl g_cn_right)), (a10, .inl (cI, 46, .inl g_cn_year)), (a5, .inl (cI, 6, .inl g_se_weight)), (a21, .inl (cI, 6, .inl g_V_worn))]) (k_rV hC hN hZ hS hA hK hP hD (c87_X4_leastShowing l G cI cJ cB cZ a0 a1 a2 a3 a4 a5 a6 a7 a15 a16 a17 a18 a19 a20 a21 a22 a23 a24 a25 z32 v_se_7 v_se_8 v_se_9 v_se_10 v_V_0 v_V_1 v_V_2 v_V_5 hv_4 hv_5 hv_8 hv_9 hv_10 hv_11 hv_12 hv_13) [1, 6] rfl (by decide +kernel) mi_X4_leastShowing in_X4_leastShowing se_X4_leastShowing wm_X4_142 4 1 rfl rfl rfl hl.1 rfl rfl (Nat.le_of_ble_eq_true rfl) ⟨(Nat.le_of_ble_eq_true rfl), (Nat.le_of_ble_eq_true rfl)⟩ dX4_narrow_48 ⟨(Nat.le_of_ble_eq_true rfl), (Nat.le_of_ble_eq_true rfl)⟩) hP hD hS hA [1, 6] [0, 2, 3, 4, 5, 7, 8] rfl rfl (by decide +kernel) (by decide +kernel) (fun r33 u33 H locs hp hP hD hS => ?_)
    have hp : (True) := hp
    have hP : va_P G cl [(a12, .inl (cI, 46, .inl g_cn_how)), (a3, .inr (8, [.ref a8, .ref a9, .ref a10, .ref a11, .ref a12, .ref a13, .ref a14, .int v_cn_7])), (a8, .inl (cI, 46, .inl g_cn_left)), (a9, .inl (cI, 46, .inl g_cn_right)), (a10, .inl (cI, 46, .inl g_cn_year)), (a5, .inl (cI, 6, .inl g_se_weight)), (a21, .inl (cI, 6, .inl g_V_worn)), (a0, .inr (4, [.ref a1, .ref a2, .ref a3, .ref a4, .ref a5, .ref a6, .ref a7, .int v_se_7, .int v_se_8, .int v_se_9, .int v_se_10])), (a1, .inr (7, [.int v_V_0, .int v_V_1, .int v_V_2, .ref a15, .ref a16, .int v_V_5, .ref a17, .ref a18, .ref a19, .ref a20, .ref a21, .ref a22, .ref a23, .ref a24, .ref a25]))] H := hP
    have hD : va_D A [(a12, .inl (cI, 46, .inl g_cn_how)), (a3, .inr (8, [.ref a8, .ref a9, .ref a10, .ref a11, .ref a12, .ref a13, .ref a14, .int v_cn_7])), (a8, .inl (cI, 46, .inl g_cn_left)), (a9, .inl (cI, 46, .inl g_cn_right)), (a10, .inl (cI, 46, .inl g_cn_year)), (a5, .inl (cI, 6, .inl g_se_weight)), (a21, .inl (cI, 6, .inl g_V_worn)), (a0, .inr (4, [.ref a1, .ref a2, .ref a3, .ref a4, .ref a5, .ref a6, .ref a7, .int v_se_7, .int v_se_8, .int v_se_9, .int v_se_10])), (a1, .inr (7, [.int v_V_0, .int v_V_1, .int v_V_2, .ref a15, .ref a16, .int v_V_5, .ref a17, .ref a18, .ref a19, .ref a20, .ref a21, .ref a22, .ref a23, .ref a24, .ref a25]))] := hD
    have hq33 := hp
    refine lv_iload hx hb dX4_narrow_51 (lv_at hl 0 rfl) ?_
    refine lv_isub hx hb dX4_narrow_53 ?_
    refine lv_topi (fun z34 _ => ?_)
    refine lv_goto (tgt := 73) hx hb dX4_narrow_54 (by decide) ?_
    refine lv_istore (lv' := [(6, .int z34), (5, .int r31), (4, .int 1), (3, .int z1), (0, .ref a0), (1, .int b1), (2, .int b2)]) hx hb dX4_narrow_73 hl (by decide) rfl (fun ls hl => ?_)
    refine lv_iload hx hb dX4_narrow_75 (lv_at hl 2 rfl) ?_
    refine lv_if_eq (tgt := 99) hx hb dX4_narrow_77 (by decide) (fun c_ => absurd c_ (by decide +kernel)) (fun _ => ?_)
    refine lv_aload_n hx hb dX4_narrow_80 rfl (lv_at hl 4 rfl) ?_
    refine lv_aload_n hx hb dX4_narrow_81 rfl (lv_at hl 4 rfl) ?_
    refine k_get hC hK hP iX4 7 2 wf_X4_30 rfl (by decide) rfl rfl dX4_narrow_82 ?_
    refine k_getN hC hN hK hP iX8 1 4 wf_X4_139 rfl (by decide) rfl rfl dX4_narrow_85 ?_
    refine lv_iload_n hx hb dX4_narrow_88 rfl (lv_at hl 5 rfl) ?_
    refine t_iald hC hK hP 0 rfl (by omega) (by omega) (TA.all _) dX4_narrow_89 (fun z35 tz35 => ?_)
    refine k_ci (wr := [(a12, .inl (cI, 46, .inl g_cn_how)), (a3, .inr (8, [.ref a8, .ref a9, .ref a10, .ref a11, .ref a12, .ref a13, .ref a14, .int v_cn_7])), (a8, .inl (cI, 46, .inl g_cn_left)), (a9, .inl (cI, 46, .inl g_cn_right)), (a10, .inl (cI, 46, .inl g_cn_year)), (a5, .inl (cI, 6, .inl g_se_weight)), (a21, .inl (cI, 6, .inl g_V_worn))]) (k_rV hC hN hZ hS hA hK hP hD (c86_X4_mostShowing l G cI cJ cB cZ a0 a1 a2 a3 a4 a5 a6 a7 a15 a16 a17 a18 a19 a20 a21 a22 a23 a24 a25 z35 v_se_7 v_se_8 v_se_9 v_se_10 v_V_0 v_V_1 v_V_2 v_V_5 hv_4 hv_5 hv_8 hv_9 hv_10 hv_11 hv_12 hv_13) [7, 8] rfl (by decide +kernel) mi_X4_mostShowing in_X4_mostShowing se_X4_mostShowing wm_X4_145 4 7 rfl rfl rfl hl.1 rfl rfl (Nat.le_of_ble_eq_true rfl) ⟨(Nat.le_of_ble_eq_true rfl), (Nat.le_of_ble_eq_true rfl)⟩ dX4_narrow_90 ⟨(Nat.le_of_ble_eq_true rfl), (Nat.le_of_ble_eq_true rfl)⟩) hP hD hS hA [7, 8] [0, 1, 2, 3, 4, 5, 6] rfl rfl (by decide +kernel) (by decide +kernel) (fun r36 u36 H locs hp hP hD hS => ?_)
    have hp : (True) := hp
    have hP : va_P G cl [(a12, .inl (cI, 46, .inl g_cn_how)), (a3, .inr (8, [.ref a8, .ref a9, .ref a10, .ref a11, .ref a12, .ref a13, .ref a14, .int v_cn_7])), (a8, .inl (cI, 46, .inl g_cn_left)), (a9, .inl (cI, 46, .inl g_cn_right)), (a10, .inl (cI, 46, .inl g_cn_year)), (a5, .inl (cI, 6, .inl g_se_weight)), (a21, .inl (cI, 6, .inl g_V_worn)), (a0, .inr (4, [.ref a1, .ref a2, .ref a3, .ref a4, .ref a5, .ref a6, .ref a7, .int v_se_7, .int v_se_8, .int v_se_9, .int v_se_10])), (a1, .inr (7, [.int v_V_0, .int v_V_1, .int v_V_2, .ref a15, .ref a16, .int v_V_5, .ref a17, .ref a18, .ref a19, .ref a20, .ref a21, .ref a22, .ref a23, .ref a24, .ref a25]))] H := hP
    have hD : va_D A [(a12, .inl (cI, 46, .inl g_cn_how)), (a3, .inr (8, [.ref a8, .ref a9, .ref a10, .ref a11, .ref a12, .ref a13, .ref a14, .int v_cn_7])), (a8, .inl (cI, 46, .inl g_cn_left)), (a9, .inl (cI, 46, .inl g_cn_right)), (a10, .inl (cI, 46, .inl g_cn_year)), (a5, .inl (cI, 6, .inl g_se_weight)), (a21, .inl (cI, 6, .inl g_V_worn)), (a0, .inr (4, [.ref a1, .ref a2, .ref a3, .ref a4, .ref a5, .ref a6, .ref a7, .int v_se_7, .int v_se_8, .int v_se_9, .int v_se_10])), (a1, .inr (7, [.int v_V_0, .int v_V_1, .int v_V_2, .ref a15, .ref a16, .int v_V_5, .ref a17, .ref a18, .ref a19, .ref a20, .ref a21, .ref a22, .ref a23, .ref a24, .ref a25]))] := hD
    have hq36 := hp
    refine lv_iload hx hb dX4_narrow_93 (lv_at hl 1 rfl) ?_
    refine lv_isub hx hb dX4_narrow_95 ?_
    refine lv_topi (fun z37 _ => ?_)
    refine lv_goto (tgt := 115) hx hb dX4_narrow_96 (by decide) ?_
    refine lv_istore (lv' := [(7, .int z37), (6, .int z34), (5, .int r31), (4, .int 1), (3, .int z1), (0, .ref a0), (1, .int b1), (2, .int b2)]) hx hb dX4_narrow_115 hl (by decide) rfl (fun ls hl => ?_)
    refine lv_iload hx hb dX4_narrow_117 (lv_at hl 3 rfl) ?_
    refine lv_if_eq (tgt := 127) hx hb dX4_narrow_119 (by decide) (fun c_ => absurd c_ (by decide +kernel)) (fun _ => ?_)
    refine lv_bipush (v := 100) hx hb dX4_narrow_122 (by decide) ?_
    refine lv_goto (tgt := 135) hx hb dX4_narrow_124 (by decide) ?_
    refine lv_istore (lv' := [(8, .int 100), (7, .int z37), (6, .int z34), (5, .int r31), (4, .int 1), (3, .int z1), (0, .ref a0), (1, .int b1), (2, .int b2)]) hx hb dX4_narrow_135 hl (by decide) rfl (fun ls hl => ?_)
    refine lv_iload hx hb dX4_narrow_137 (lv_at hl 2 rfl) ?_
    refine lv_ineg hx hb dX4_narrow_139 ?_
    refine lv_topi (fun z38 _ => ?_)
    refine lv_iload hx hb dX4_narrow_140 (lv_at hl 0 rfl) ?_
    have l_l40 : (100 : Int32).toInt = 100 := rfl
    refine k_ci (wr := [(a12, .inl (cI, 46, .inl g_cn_how)), (a3, .inr (8, [.ref a8, .ref a9, .ref a10, .ref a11, .ref a12, .ref a13, .ref a14, .int v_cn_7])), (a8, .inl (cI, 46, .inl g_cn_left)), (a9, .inl (cI, 46, .inl g_cn_right)), (a10, .inl (cI, 46, .inl g_cn_year)), (a5, .inl (cI, 6, .inl g_se_weight)), (a21, .inl (cI, 6, .inl g_V_worn)), (a0, .inr (4, [.ref a1, .ref a2, .ref a3, .ref a4, .ref a5, .ref a6, .ref a7, .int v_se_7, .int v_se_8, .int v_se_9, .int v_se_10])), (a1, .inr (7, [.int v_V_0, .int v_V_1, .int v_V_2, .ref a15, .ref a16, .int v_V_5, .ref a17, .ref a18, .ref a19, .ref a20, .ref a21, .ref a22, .ref a23, .ref a24, .ref a25]))]) (k_rS hC hN hZ hS hA hK hP hD (c43_J9_floorDiv_7cf53 l G cI cJ cB cZ z38 100 (by omega)) [] rfl (by decide +kernel) mi_J9_floorDiv_7cf53 st_J9_floorDiv_7cf53 wm_X4_153 hl.1 rfl rfl (Nat.le_of_ble_eq_true rfl) ⟨(Nat.le_of_ble_eq_true rfl), (Nat.le_of_ble_eq_true rfl)⟩ dX4_narrow_142 ⟨(Nat.le_of_ble_eq_true rfl), (Nat.le_of_ble_eq_true rfl)⟩) hP hD hS hA [] [0, 1, 2, 3, 4, 5, 6, 7, 8] rfl rfl (by decide +kernel) (by decide +kernel) (fun r39 u39 H locs hp hP hD hS => ?_)
    have hp : (True) := hp
    have hP : va_P G cl [(a12, .inl (cI, 46, .inl g_cn_how)), (a3, .inr (8, [.ref a8, .ref a9, .ref a10, .ref a11, .ref a12, .ref a13, .ref a14, .int v_cn_7])), (a8, .inl (cI, 46, .inl g_cn_left)), (a9, .inl (cI, 46, .inl g_cn_right)), (a10, .inl (cI, 46, .inl g_cn_year)), (a5, .inl (cI, 6, .inl g_se_weight)), (a21, .inl (cI, 6, .inl g_V_worn)), (a0, .inr (4, [.ref a1, .ref a2, .ref a3, .ref a4, .ref a5, .ref a6, .ref a7, .int v_se_7, .int v_se_8, .int v_se_9, .int v_se_10])), (a1, .inr (7, [.int v_V_0, .int v_V_1, .int v_V_2, .ref a15, .ref a16, .int v_V_5, .ref a17, .ref a18, .ref a19, .ref a20, .ref a21, .ref a22, .ref a23, .ref a24, .ref a25]))] H := hP
    have hD : va_D A [(a12, .inl (cI, 46, .inl g_cn_how)), (a3, .inr (8, [.ref a8, .ref a9, .ref a10, .ref a11, .ref a12, .ref a13, .ref a14, .int v_cn_7])), (a8, .inl (cI, 46, .inl g_cn_left)), (a9, .inl (cI, 46, .inl g_cn_right)), (a10, .inl (cI, 46, .inl g_cn_year)), (a5, .inl (cI, 6, .inl g_se_weight)), (a21, .inl (cI, 6, .inl g_V_worn)), (a0, .inr (4, [.ref a1, .ref a2, .ref a3, .ref a4, .ref a5, .ref a6, .ref a7, .int v_se_7, .int v_se_8, .int v_se_9, .int v_se_10])), (a1, .inr (7, [.int v_V_0, .int v_V_1, .int v_V_2, .ref a15, .ref a16, .int v_V_5, .ref a17, .ref a18, .ref a19, .ref a20, .ref a21, .ref a22, .ref a23, .ref a24, .ref a25]))] := hD
    have hq39 := hp
    refine lv_ineg hx hb dX4_narrow_145 ?_
    refine lv_topi (fun z41 _ => ?_)
    refine lv_istore (lv' := [(9, .int z41), (8, .int 100), (7, .int z37), (6, .int z34), (5, .int r31), (4, .int 1), (3, .int z1), (0, .ref a0), (1, .int b1), (2, .int b2)]) hx hb dX4_narrow_146 hl (by decide) rfl (fun ls hl => ?_)
    refine lv_iload hx hb dX4_narrow_148 (lv_at hl 2 rfl) ?_
    refine lv_iload hx hb dX4_narrow_150 (lv_at hl 1 rfl) ?_
    have l_l43 : (100 : Int32).toInt = 100 := rfl
    refine k_ci (wr := [(a12, .inl (cI, 46, .inl g_cn_how)), (a3, .inr (8, [.ref a8, .ref a9, .ref a10, .ref a11, .ref a12, .ref a13, .ref a14, .int v_cn_7])), (a8, .inl (cI, 46, .inl g_cn_left)), (a9, .inl (cI, 46, .inl g_cn_right)), (a10, .inl (cI, 46, .inl g_cn_year)), (a5, .inl (cI, 6, .inl g_se_weight)), (a21, .inl (cI, 6, .inl g_V_worn)), (a0, .inr (4, [.ref a1, .ref a2, .ref a3, .ref a4, .ref a5, .ref a6, .ref a7, .int v_se_7, .int v_se_8, .int v_se_9, .int v_se_10])), (a1, .inr (7, [.int v_V_0, .int v_V_1, .int v_V_2, .ref a15, .ref a16, .int v_V_5, .ref a17, .ref a18, .ref a19, .ref a20, .ref a21, .ref a22, .ref a23, .ref a24, .ref a25]))]) (k_rS hC hN hZ hS hA hK hP hD (c43_J9_floorDiv_7cf53 l G cI cJ cB cZ z37 100 (by omega)) [] rfl (by decide +kernel) mi_J9_floorDiv_7cf53 st_J9_floorDiv_7cf53 wm_X4_153 hl.1 rfl rfl (Nat.le_of_ble_eq_true rfl) ⟨(Nat.le_of_ble_eq_true rfl), (Nat.le_of_ble_eq_true rfl)⟩ dX4_narrow_152 ⟨(Nat.le_of_ble_eq_true rfl), (Nat.le_of_ble_eq_true rfl)⟩) hP hD hS hA [] [0, 1, 2, 3, 4, 5, 6, 7, 8] rfl rfl (by decide +kernel) (by decide +kernel) (fun r42 u42 H locs hp hP hD hS => ?_)
    have hp : (True) := hp
    have hP : va_P G cl [(a12, .inl (cI, 46, .inl g_cn_how)), (a3, .inr (8, [.ref a8, .ref a9, .ref a10, .ref a11, .ref a12, .ref a13, .ref a14, .int v_cn_7])), (a8, .inl (cI, 46, .inl g_cn_left)), (a9, .inl (cI, 46, .inl g_cn_right)), (a10, .inl (cI, 46, .inl g_cn_year)), (a5, .inl (cI, 6, .inl g_se_weight)), (a21, .inl (cI, 6, .inl g_V_worn)), (a0, .inr (4, [.ref a1, .ref a2, .ref a3, .ref a4, .ref a5, .ref a6, .ref a7, .int v_se_7, .int v_se_8, .int v_se_9, .int v_se_10])), (a1, .inr (7, [.int v_V_0, .int v_V_1, .int v_V_2, .ref a15, .ref a16, .int v_V_5, .ref a17, .ref a18, .ref a19, .ref a20, .ref a21, .ref a22, .ref a23, .ref a24, .ref a25]))] H := hP
    have hD : va_D A [(a12, .inl (cI, 46, .inl g_cn_how)), (a3, .inr (8, [.ref a8, .ref a9, .ref a10, .ref a11, .ref a12, .ref a13, .ref a14, .int v_cn_7])), (a8, .inl (cI, 46, .inl g_cn_left)), (a9, .inl (cI, 46, .inl g_cn_right)), (a10, .inl (cI, 46, .inl g_cn_year)), (a5, .inl (cI, 6, .inl g_se_weight)), (a21, .inl (cI, 6, .inl g_V_worn)), (a0, .inr (4, [.ref a1, .ref a2, .ref a3, .ref a4, .ref a5, .ref a6, .ref a7, .int v_se_7, .int v_se_8, .int v_se_9, .int v_se_10])), (a1, .inr (7, [.int v_V_0, .int v_V_1, .int v_V_2, .ref a15, .ref a16, .int v_V_5, .ref a17, .ref a18, .ref a19, .ref a20, .ref a21, .ref a22, .ref a23, .ref a24, .ref a25]))] := hD
    have hq42 := hp
    refine lv_istore (lv' := [(10, .int r42), (9, .int z41), (8, .int 100), (7, .int z37), (6, .int z34), (5, .int r31), (4, .int 1), (3, .int z1), (0, .ref a0), (1, .int b1), (2, .int b2)]) hx hb dX4_narrow_155 hl (by decide) rfl (fun ls hl => ?_)
    refine lv_aload_n hx hb dX4_narrow_157 rfl (lv_at hl 8 rfl) ?_
    refine k_get hC hK hP iX4 7 0 wf_X4_12 rfl (by decide) rfl rfl dX4_narrow_158 ?_
    refine k_getN hC hN hK hP iX7 8 10 wf_X4_156 rfl (by decide) rfl rfl dX4_narrow_161 ?_
    refine lv_iload_n hx hb dX4_narrow_164 rfl (lv_at hl 10 rfl) ?_
    refine t_iald hC hK hP 6 rfl (by omega) (by omega) (TA.all _) dX4_narrow_165 (fun z44 tz44 => ?_)
    refine lv_aload_n hx hb dX4_narrow_166 rfl (lv_at hl 8 rfl) ?_
    refine k_get hC hK hP iX4 7 2 wf_X4_30 rfl (by decide) rfl rfl dX4_narrow_167 ?_
    refine k_getN hC hN hK hP iX8 1 2 wf_X4_159 rfl (by decide) rfl rfl dX4_narrow_170 ?_
    refine lv_iload_n hx hb dX4_narrow_173 rfl (lv_at hl 9 rfl) ?_
    refine t_iald hC hK hP 4 rfl (by omega) (by omega) (TA.all _) dX4_narrow_174 (fun z45 tz45 => ?_)
    refine lv_imul hx hb dX4_narrow_175 ?_
    refine lv_topi (fun z46 _ => ?_)
    refine lv_istore (lv' := [(11, .int z46), (10, .int r42), (9, .int z41), (8, .int 100), (7, .int z37), (6, .int z34), (5, .int r31), (4, .int 1), (3, .int z1), (0, .ref a0), (1, .int b1), (2, .int b2)]) hx hb dX4_narrow_176 hl (by decide) rfl (fun ls hl => ?_)
    refine lv_iload hx hb dX4_narrow_178 (lv_at hl 2 rfl) ?_
    refine lv_if_le (tgt := 199) hx hb dX4_narrow_180 (by decide) (fun c47 => ?_) (fun c47 => ?_)
    · have dc47 : z41.toInt ≤ 0 := (fa_le _ _).mp c47; have lbc47_0 := i_lo z41; have ubc47_0 := i_hi z41
      refine lv_aload_n hx hb dX4_narrow_199 rfl (lv_at hl 9 rfl) ?_
      refine lv_iload hx hb dX4_narrow_200 (lv_at hl 1 rfl) ?_
      refine lv_if_ge (tgt := 214) hx hb dX4_narrow_202 (by decide) (fun c48 => ?_) (fun c48 => ?_)
      · have dc48 : 0 ≤ r42.toInt := (fa_le _ _).mp c48; have lbc48_1 := i_lo r42; have ubc48_1 := i_hi r42
        refine lv_aload_n hx hb dX4_narrow_214 rfl (lv_at hl 9 rfl) ?_
        refine k_get hC hK hP iX4 7 9 wf_X4_54 rfl (by decide) rfl rfl dX4_narrow_215 ?_
        refine lv_iload hx hb dX4_narrow_218 (lv_at hl 1 rfl) ?_
        refine lv_iload hx hb dX4_narrow_220 (lv_at hl 0 rfl) ?_
        refine lv_iadd hx hb dX4_narrow_222 ?_
        refine lv_topi (fun z49 _ => ?_)
        refine va_mmin hx hb (hml.trans hl.1.symm) hown (hts _ wm_X4_162) (hts _ st_Mmin) (hts _ ini_Math) (hts _ co_Mmin) (Nat.le_of_ble_eq_true rfl) (Nat.le_of_ble_eq_true rfl) (Nat.le_of_ble_eq_true rfl) (Nat.le_of_ble_eq_true rfl) dX4_narrow_223 ?_
        refine t_i (fun q => q.toInt ≤ v_se_9.toInt ∧ q.toInt ≤ z49.toInt ∧ (q.toInt = v_se_9.toInt ∨ q.toInt = z49.toInt)) (min_b v_se_9 z49) (fun z50 tz50 => ?_)
        refine k_put hC hK hP hD hS iX4 tyX4_ok nmX4 7 9 wf_X4_54 rfl (by decide) rfl rfl rfl rfl (Nat.le_of_ble_eq_true rfl) dX4_narrow_226 (fun H locs hP hD hS => ?_)
        have hP : va_P G cl [(a12, .inl (cI, 46, .inl g_cn_how)), (a3, .inr (8, [.ref a8, .ref a9, .ref a10, .ref a11, .ref a12, .ref a13, .ref a14, .int v_cn_7])), (a8, .inl (cI, 46, .inl g_cn_left)), (a9, .inl (cI, 46, .inl g_cn_right)), (a10, .inl (cI, 46, .inl g_cn_year)), (a5, .inl (cI, 6, .inl g_se_weight)), (a21, .inl (cI, 6, .inl g_V_worn)), (a0, .inr (4, [.ref a1, .ref a2, .ref a3, .ref a4, .ref a5, .ref a6, .ref a7, .int v_se_7, .int v_se_8, .int z50, .int v_se_10])), (a1, .inr (7, [.int v_V_0, .int v_V_1, .int v_V_2, .ref a15, .ref a16, .int v_V_5, .ref a17, .ref a18, .ref a19, .ref a20, .ref a21, .ref a22, .ref a23, .ref a24, .ref a25]))] H := hP
        have hD : va_D A [(a12, .inl (cI, 46, .inl g_cn_how)), (a3, .inr (8, [.ref a8, .ref a9, .ref a10, .ref a11, .ref a12, .ref a13, .ref a14, .int v_cn_7])), (a8, .inl (cI, 46, .inl g_cn_left)), (a9, .inl (cI, 46, .inl g_cn_right)), (a10, .inl (cI, 46, .inl g_cn_year)), (a5, .inl (cI, 6, .inl g_se_weight)), (a21, .inl (cI, 6, .inl g_V_worn)), (a0, .inr (4, [.ref a1, .ref a2, .ref a3, .ref a4, .ref a5, .ref a6, .ref a7, .int v_se_7, .int v_se_8, .int z50, .int v_se_10])), (a1, .inr (7, [.int v_V_0, .int v_V_1, .int v_V_2, .ref a15, .ref a16, .int v_V_5, .ref a17, .ref a18, .ref a19, .ref a20, .ref a21, .ref a22, .ref a23, .ref a24, .ref a25]))] := hD
        rw [← hQm]
        exact k_vret hC hr hlk hK hP hD hS (v_se_8, z50) [7, 1, 2, 3, 4, 8, 5, 6, 0] rfl (by decide +kernel) ⟨(show 0 ≤ v_se_8.toInt ∧ z50.toInt ≤ 2147483646 from by omega), (show NR (v_se_8 : Int32).toInt (v_se_9 : Int32).toInt (v_se_8 : Int32).toInt (z50 : Int32).toInt from by unfold NR; omega)⟩ (Nat.le_of_ble_eq_true rfl) (Nat.le_of_ble_eq_true rfl) dX4_narrow_229
      · have dc48 : r42.toInt < 0 := fa_nle c48; have lbc48_1 := i_lo r42; have ubc48_1 := i_hi r42
        refine lv_aload_n hx hb dX4_narrow_205 rfl (lv_at hl 9 rfl) ?_
        refine k_get hC hK hP iX4 7 8 wf_X4_51 rfl (by decide) rfl rfl dX4_narrow_206 ?_
        refine lv_iconst (v := 1) hx hb dX4_narrow_209 (by decide) ?_
        refine lv_isub hx hb dX4_narrow_210 ?_
        have ubz51_0 := i_hi v_se_8
        refine t_i (fun q => q.toInt = v_se_8.toInt - 1) (sub_i (by have q_ := i_hi v_se_8; show (-2147483648 : Int) ≤ v_se_8.toInt - 1; omega) (by have q_ := i_hi v_se_8; show v_se_8.toInt - 1 ≤ (2147483647 : Int); omega)) (fun z51 tz51 => ?_)
        refine lv_goto (tgt := 226) hx hb dX4_narrow_211 (by decide) ?_
        refine k_put hC hK hP hD hS iX4 tyX4_ok nmX4 7 9 wf_X4_54 rfl (by decide) rfl rfl rfl rfl (Nat.le_of_ble_eq_true rfl) dX4_narrow_226 (fun H locs hP hD hS => ?_)
        have hP : va_P G cl [(a12, .inl (cI, 46, .inl g_cn_how)), (a3, .inr (8, [.ref a8, .ref a9, .ref a10, .ref a11, .ref a12, .ref a13, .ref a14, .int v_cn_7])), (a8, .inl (cI, 46, .inl g_cn_left)), (a9, .inl (cI, 46, .inl g_cn_right)), (a10, .inl (cI, 46, .inl g_cn_year)), (a5, .inl (cI, 6, .inl g_se_weight)), (a21, .inl (cI, 6, .inl g_V_worn)), (a0, .inr (4, [.ref a1, .ref a2, .ref a3, .ref a4, .ref a5, .ref a6, .ref a7, .int v_se_7, .int v_se_8, .int z51, .int v_se_10])), (a1, .inr (7, [.int v_V_0, .int v_V_1, .int v_V_2, .ref a15, .ref a16, .int v_V_5, .ref a17, .ref a18, .ref a19, .ref a20, .ref a21, .ref a22, .ref a23, .ref a24, .ref a25]))] H := hP
        have hD : va_D A [(a12, .inl (cI, 46, .inl g_cn_how)), (a3, .inr (8, [.ref a8, .ref a9, .ref a10, .ref a11, .ref a12, .ref a13, .ref a14, .int v_cn_7])), (a8, .inl (cI, 46, .inl g_cn_left)), (a9, .inl (cI, 46, .inl g_cn_right)), (a10, .inl (cI, 46, .inl g_cn_year)), (a5, .inl (cI, 6, .inl g_se_weight)), (a21, .inl (cI, 6, .inl g_V_worn)), (a0, .inr (4, [.ref a1, .ref a2, .ref a3, .ref a4, .ref a5, .ref a6, .ref a7, .int v_se_7, .int v_se_8, .int z51, .int v_se_10])), (a1, .inr (7, [.int v_V_0, .int v_V_1, .int v_V_2, .ref a15, .ref a16, .int v_V_5, .ref a17, .ref a18, .ref a19, .ref a20, .ref a21, .ref a22, .ref a23, .ref a24, .ref a25]))] := hD
        rw [← hQm]
        exact k_vret hC hr hlk hK hP hD hS (v_se_8, z51) [7, 1, 2, 3, 4, 8, 5, 6, 0] rfl (by decide +kernel) ⟨(show 0 ≤ v_se_8.toInt ∧ z51.toInt ≤ 2147483646 from by omega), (show NR (v_se_8 : Int32).toInt (v_se_9 : Int32).toInt (v_se_8 : Int32).toInt (z51 : Int32).toInt from by unfold NR; omega)⟩ (Nat.le_of_ble_eq_true rfl) (Nat.le_of_ble_eq_true rfl) dX4_narrow_229
    · have dc47 : 0 < z41.toInt := fa_nle c47; have lbc47_0 := i_lo z41; have ubc47_0 := i_hi z41
      refine lv_aload_n hx hb dX4_narrow_183 rfl (lv_at hl 9 rfl) ?_
      refine lv_aload_n hx hb dX4_narrow_184 rfl (lv_at hl 9 rfl) ?_
      refine k_get hC hK hP iX4 7 8 wf_X4_51 rfl (by decide) rfl rfl dX4_narrow_185 ?_
      refine lv_iload hx hb dX4_narrow_188 (lv_at hl 2 rfl) ?_
      refine lv_iload hx hb dX4_narrow_190 (lv_at hl 0 rfl) ?_
      refine lv_iadd hx hb dX4_narrow_192 ?_
      refine lv_topi (fun z52 _ => ?_)
      refine va_mmax hx hb (hml.trans hl.1.symm) hown (hts _ wm_X4_148) (hts _ st_Mmax) (hts _ ini_Math) (hts _ co_Mmax) (Nat.le_of_ble_eq_true rfl) (Nat.le_of_ble_eq_true rfl) (Nat.le_of_ble_eq_true rfl) (Nat.le_of_ble_eq_true rfl) dX4_narrow_193 ?_
      refine t_i (fun q => v_se_8.toInt ≤ q.toInt ∧ z52.toInt ≤ q.toInt ∧ (q.toInt = v_se_8.toInt ∨ q.toInt = z52.toInt)) (max_b v_se_8 z52) (fun z53 tz53 => ?_)
      refine k_put hC hK hP hD hS iX4 tyX4_ok nmX4 7 8 wf_X4_51 rfl (by decide) rfl rfl rfl rfl (Nat.le_of_ble_eq_true rfl) dX4_narrow_196 (fun H locs hP hD hS => ?_)
      have hP : va_P G cl [(a12, .inl (cI, 46, .inl g_cn_how)), (a3, .inr (8, [.ref a8, .ref a9, .ref a10, .ref a11, .ref a12, .ref a13, .ref a14, .int v_cn_7])), (a8, .inl (cI, 46, .inl g_cn_left)), (a9, .inl (cI, 46, .inl g_cn_right)), (a10, .inl (cI, 46, .inl g_cn_year)), (a5, .inl (cI, 6, .inl g_se_weight)), (a21, .inl (cI, 6, .inl g_V_worn)), (a0, .inr (4, [.ref a1, .ref a2, .ref a3, .ref a4, .ref a5, .ref a6, .ref a7, .int v_se_7, .int z53, .int v_se_9, .int v_se_10])), (a1, .inr (7, [.int v_V_0, .int v_V_1, .int v_V_2, .ref a15, .ref a16, .int v_V_5, .ref a17, .ref a18, .ref a19, .ref a20, .ref a21, .ref a22, .ref a23, .ref a24, .ref a25]))] H := hP
      have hD : va_D A [(a12, .inl (cI, 46, .inl g_cn_how)), (a3, .inr (8, [.ref a8, .ref a9, .ref a10, .ref a11, .ref a12, .ref a13, .ref a14, .int v_cn_7])), (a8, .inl (cI, 46, .inl g_cn_left)), (a9, .inl (cI, 46, .inl g_cn_right)), (a10, .inl (cI, 46, .inl g_cn_year)), (a5, .inl (cI, 6, .inl g_se_weight)), (a21, .inl (cI, 6, .inl g_V_worn)), (a0, .inr (4, [.ref a1, .ref a2, .ref a3, .ref a4, .ref a5, .ref a6, .ref a7, .int v_se_7, .int z53, .int v_se_9, .int v_se_10])), (a1, .inr (7, [.int v_V_0, .int v_V_1, .int v_V_2, .ref a15, .ref a16, .int v_V_5, .ref a17, .ref a18, .ref a19, .ref a20, .ref a21, .ref a22, .ref a23, .ref a24, .ref a25]))] := hD
      refine lv_aload_n hx hb dX4_narrow_199 rfl (lv_at hl 9 rfl) ?_
      refine lv_iload hx hb dX4_narrow_200 (lv_at hl 1 rfl) ?_
      refine lv_if_ge (tgt := 214) hx hb dX4_narrow_202 (by decide) (fun c54 => ?_) (fun c54 => ?_)
      · have dc54 : 0 ≤ r42.toInt := (fa_le _ _).mp c54; have lbc54_1 := i_lo r42; have ubc54_1 := i_hi r42
        refine lv_aload_n hx hb dX4_narrow_214 rfl (lv_at hl 9 rfl) ?_
        refine k_get hC hK hP iX4 7 9 wf_X4_54 rfl (by decide) rfl rfl dX4_narrow_215 ?_
        refine lv_iload hx hb dX4_narrow_218 (lv_at hl 1 rfl) ?_
        refine lv_iload hx hb dX4_narrow_220 (lv_at hl 0 rfl) ?_
        refine lv_iadd hx hb dX4_narrow_222 ?_
        refine lv_topi (fun z55 _ => ?_)
        refine va_mmin hx hb (hml.trans hl.1.symm) hown (hts _ wm_X4_162) (hts _ st_Mmin) (hts _ ini_Math) (hts _ co_Mmin) (Nat.le_of_ble_eq_true rfl) (Nat.le_of_ble_eq_true rfl) (Nat.le_of_ble_eq_true rfl) (Nat.le_of_ble_eq_true rfl) dX4_narrow_223 ?_
        refine t_i (fun q => q.toInt ≤ v_se_9.toInt ∧ q.toInt ≤ z55.toInt ∧ (q.toInt = v_se_9.toInt ∨ q.toInt = z55.toInt)) (min_b v_se_9 z55) (fun z56 tz56 => ?_)
        refine k_put hC hK hP hD hS iX4 tyX4_ok nmX4 7 9 wf_X4_54 rfl (by decide) rfl rfl rfl rfl (Nat.le_of_ble_eq_true rfl) dX4_narrow_226 (fun H locs hP hD hS => ?_)
        have hP : va_P G cl [(a12, .inl (cI, 46, .inl g_cn_how)), (a3, .inr (8, [.ref a8, .ref a9, .ref a10, .ref a11, .ref a12, .ref a13, .ref a14, .int v_cn_7])), (a8, .inl (cI, 46, .inl g_cn_left)), (a9, .inl (cI, 46, .inl g_cn_right)), (a10, .inl (cI, 46, .inl g_cn_year)), (a5, .inl (cI, 6, .inl g_se_weight)), (a21, .inl (cI, 6, .inl g_V_worn)), (a0, .inr (4, [.ref a1, .ref a2, .ref a3, .ref a4, .ref a5, .ref a6, .ref a7, .int v_se_7, .int z53, .int z56, .int v_se_10])), (a1, .inr (7, [.int v_V_0, .int v_V_1, .int v_V_2, .ref a15, .ref a16, .int v_V_5, .ref a17, .ref a18, .ref a19, .ref a20, .ref a21, .ref a22, .ref a23, .ref a24, .ref a25]))] H := hP
        have hD : va_D A [(a12, .inl (cI, 46, .inl g_cn_how)), (a3, .inr (8, [.ref a8, .ref a9, .ref a10, .ref a11, .ref a12, .ref a13, .ref a14, .int v_cn_7])), (a8, .inl (cI, 46, .inl g_cn_left)), (a9, .inl (cI, 46, .inl g_cn_right)), (a10, .inl (cI, 46, .inl g_cn_year)), (a5, .inl (cI, 6, .inl g_se_weight)), (a21, .inl (cI, 6, .inl g_V_worn)), (a0, .inr (4, [.ref a1, .ref a2, .ref a3, .ref a4, .ref a5, .ref a6, .ref a7, .int v_se_7, .int z53, .int z56, .int v_se_10])), (a1, .inr (7, [.int v_V_0, .int v_V_1, .int v_V_2, .ref a15, .ref a16, .int v_V_5, .ref a17, .ref a18, .ref a19, .ref a20, .ref a21, .ref a22, .ref a23, .ref a24, .ref a25]))] := hD
        rw [← hQm]
        exact k_vret hC hr hlk hK hP hD hS (z53, z56) [7, 1, 2, 3, 4, 8, 5, 6, 0] rfl (by decide +kernel) ⟨(show 0 ≤ z53.toInt ∧ z56.toInt ≤ 2147483646 from by omega), (show NR (v_se_8 : Int32).toInt (v_se_9 : Int32).toInt (z53 : Int32).toInt (z56 : Int32).toInt from by unfold NR; omega)⟩ (Nat.le_of_ble_eq_true rfl) (Nat.le_of_ble_eq_true rfl) dX4_narrow_229
      · have dc54 : r42.toInt < 0 := fa_nle c54; have lbc54_1 := i_lo r42; have ubc54_1 := i_hi r42
        refine lv_aload_n hx hb dX4_narrow_205 rfl (lv_at hl 9 rfl) ?_
        refine k_get hC hK hP iX4 7 8 wf_X4_51 rfl (by decide) rfl rfl dX4_narrow_206 ?_
        refine lv_iconst (v := 1) hx hb dX4_narrow_209 (by decide) ?_
        refine lv_isub hx hb dX4_narrow_210 ?_
        have ubz57_0 := i_hi z53
        refine t_i (fun q => q.toInt = z53.toInt - 1) (sub_i (by have q_ := i_hi z53; show (-2147483648 : Int) ≤ z53.toInt - 1; omega) (by have q_ := i_hi z53; show z53.toInt - 1 ≤ (2147483647 : Int); omega)) (fun z57 tz57 => ?_)
        refine lv_goto (tgt := 226) hx hb dX4_narrow_211 (by decide) ?_
        refine k_put hC hK hP hD hS iX4 tyX4_ok nmX4 7 9 wf_X4_54 rfl (by decide) rfl rfl rfl rfl (Nat.le_of_ble_eq_true rfl) dX4_narrow_226 (fun H locs hP hD hS => ?_)
        have hP : va_P G cl [(a12, .inl (cI, 46, .inl g_cn_how)), (a3, .inr (8, [.ref a8, .ref a9, .ref a10, .ref a11, .ref a12, .ref a13, .ref a14, .int v_cn_7])), (a8, .inl (cI, 46, .inl g_cn_left)), (a9, .inl (cI, 46, .inl g_cn_right)), (a10, .inl (cI, 46, .inl g_cn_year)), (a5, .inl (cI, 6, .inl g_se_weight)), (a21, .inl (cI, 6, .inl g_V_worn)), (a0, .inr (4, [.ref a1, .ref a2, .ref a3, .ref a4, .ref a5, .ref a6, .ref a7, .int v_se_7, .int z53, .int z57, .int v_se_10])), (a1, .inr (7, [.int v_V_0, .int v_V_1, .int v_V_2, .ref a15, .ref a16, .int v_V_5, .ref a17, .ref a18, .ref a19, .ref a20, .ref a21, .ref a22, .ref a23, .ref a24, .ref a25]))] H := hP
        have hD : va_D A [(a12, .inl (cI, 46, .inl g_cn_how)), (a3, .inr (8, [.ref a8, .ref a9, .ref a10, .ref a11, .ref a12, .ref a13, .ref a14, .int v_cn_7])), (a8, .inl (cI, 46, .inl g_cn_left)), (a9, .inl (cI, 46, .inl g_cn_right)), (a10, .inl (cI, 46, .inl g_cn_year)), (a5, .inl (cI, 6, .inl g_se_weight)), (a21, .inl (cI, 6, .inl g_V_worn)), (a0, .inr (4, [.ref a1, .ref a2, .ref a3, .ref a4, .ref a5, .ref a6, .ref a7, .int v_se_7, .int z53, .int z57, .int v_se_10])), (a1, .inr (7, [.int v_V_0, .int v_V_1, .int v_V_2, .ref a15, .ref a16, .int v_V_5, .ref a17, .ref a18, .ref a19, .ref a20, .ref a21, .ref a22, .ref a23, .ref a24, .ref a25]))] := hD
        rw [← hQm]
        exact k_vret hC hr hlk hK hP hD hS (z53, z57) [7, 1, 2, 3, 4, 8, 5, 6, 0] rfl (by decide +kernel) ⟨(show 0 ≤ z53.toInt ∧ z57.toInt ≤ 2147483646 from by omega), (show NR (v_se_8 : Int32).toInt (v_se_9 : Int32).toInt (z53 : Int32).toInt (z57 : Int32).toInt from by unfold NR; omega)⟩ (Nat.le_of_ble_eq_true rfl) (Nat.le_of_ble_eq_true rfl) dX4_narrow_229
theorem dX0_withWeight_0 : decode cX0_withWeight 0 = .ok (.lload_n 0, 1) := by decide +kernel
theorem dX0_withWeight_1 : decode cX0_withWeight 1 = .ok (.iload_n 3, 1) := by decide +kernel
theorem dX0_withWeight_2 : decode cX0_withWeight 2 = .ok (.i2l, 1) := by decide +kernel
theorem dX0_withWeight_3 : decode cX0_withWeight 3 = .ok (.bipush 9, 2) := by decide +kernel
theorem dX0_withWeight_5 : decode cX0_withWeight 5 = .ok (.iload_n 2, 1) := by decide +kernel
theorem dX0_withWeight_6 : decode cX0_withWeight 6 = .ok (.imul, 1) := by decide +kernel
theorem dX0_withWeight_7 : decode cX0_withWeight 7 = .ok (.lshl, 1) := by decide +kernel
theorem dX0_withWeight_8 : decode cX0_withWeight 8 = .ok (.lor, 1) := by decide +kernel
theorem dX0_withWeight_9 : decode cX0_withWeight 9 = .ok (.lreturn, 1) := by decide +kernel
set_option maxHeartbeats 4000000 in
set_option maxRecDepth 100000 in
theorem c151_X0_withWeight (l : Launch) (G : va_G) (cI cJ cB cZ : ClassId) (b0 : Int64) (b1 : Int32) (b2 : Int32) : Con l G (TY cI cJ cB cZ) yX0_withWeight cX0_withWeight 4 (some .long) ({ frames := 0, cells := 0, slots := 0, locals := 0 } : Room) [.long b0, .int b1, .int b2] [] (QL G (TY cI cJ cB cZ) (fun (r : Int64) (u : Unit) => (True)) (fun u : Unit => [])) := by
  refine k_met (by decide) (Nat.le_of_ble_eq_true rfl) ?_
  intro p e s m below meth c A ls hC hr hlk hnm hN hZ hK hA hP hD hS hl
  have hl : lv_has ls 4 [(0, .long b0), (2, .int b1), (3, .int b2)] := hl
  generalize hQm : MQ below _ _ s _ _ A = Qm
  generalize (List.toArray _ : Array Value) = args at hC hQm ⊢
  obtain ⟨hx, hb, hml, hown, hts⟩ := id hC
  obtain ⟨H, hH⟩ : ∃ q, q = s.heap := ⟨_, rfl⟩
  obtain ⟨locs, hlo⟩ : ∃ q : List Loc, q = [] := ⟨_, rfl⟩
  have hP : va_P G cl [] H := by rw [hH]; exact hP
  have hS : va_S A s.heap H locs := by rw [hH, hlo]; exact hS
  rw [← hlo]
  rw [← hH]
  refine lv_lload_n hx hb dX0_withWeight_0 rfl (lv_at hl 0 rfl) ?_
  refine lv_iload_n hx hb dX0_withWeight_1 rfl (lv_at hl 2 rfl) ?_
  refine lv_i2l hx hb dX0_withWeight_2 rfl ?_
  refine t_l (fun y1 => ?_)
  refine lv_bipush (v := 9) hx hb dX0_withWeight_3 (by decide) ?_
  refine lv_iload_n hx hb dX0_withWeight_5 rfl (lv_at hl 1 rfl) ?_
  refine lv_imul hx hb dX0_withWeight_6 ?_
  refine lv_topi (fun z2 _ => ?_)
  refine lv_lshl hx hb dX0_withWeight_7 rfl ?_
  refine t_l (fun y3 => ?_)
  refine lv_lor hx hb dX0_withWeight_8 ?_
  refine t_l (fun y4 => ?_)
  rw [← hQm]
  exact k_lret hC hr hlk hK hP hD hS () [] rfl (by decide +kernel) trivial (Nat.le_of_ble_eq_true rfl) (Nat.le_of_ble_eq_true rfl) dX0_withWeight_9
theorem dX4_lay_0 : decode cX4_lay 0 = .ok (.iload_n 1, 1) := by decide +kernel
theorem dX4_lay_1 : decode cX4_lay 1 = .ok (.aload_n 0, 1) := by decide +kernel
theorem dX4_lay_2 : decode cX4_lay 2 = .ok (.getfield 12, 3) := by decide +kernel
theorem dX4_lay_5 : decode cX4_lay 5 = .ok (.getfield 109, 3) := by decide +kernel
theorem dX4_lay_8 : decode cX4_lay 8 = .ok (.if_icmp .ge 9, 3) := by decide +kernel
theorem dX4_lay_17 : decode cX4_lay 17 = .ok (.aload_n 0, 1) := by decide +kernel
theorem dX4_lay_18 : decode cX4_lay 18 = .ok (.getfield 21, 3) := by decide +kernel
set_option maxRecDepth 100000 in
theorem wf_X4_21 : Cond.fieldLink RX4 21 "StoneTrust$Search" "found" "LStoneTrust$Fits;" ∈ gw := gm (List.mem_of_getElem? (i := 411) (by decide +kernel)) rfl
theorem dX4_lay_21 : decode cX4_lay 21 = .ok (.lload_n 2, 1) := by decide +kernel
theorem dX4_lay_22 : decode cX4_lay 22 = .ok (.invokevirtual 122, 3) := by decide +kernel
set_option maxRecDepth 100000 in
theorem wm_X4_122 : Cond.methodLink RX4 122 yX0_put ∈ gw := gm (List.mem_of_getElem? (i := 885) (by decide +kernel)) rfl
set_option maxRecDepth 100000 in
theorem mi_X0_put : MI yX0_put cX0_put 3 none 1 := ⟨gm (List.mem_of_getElem? (i := 888) rfl) rfl, gm (List.mem_of_getElem? (i := 121) (by decide +kernel)) rfl, by decide, by decide, by decide +kernel⟩
set_option maxRecDepth 100000 in
theorem in_X0_put : Cond.instanceMethod yX0_put ∈ gw := gm (List.mem_of_getElem? (i := 886) (by decide +kernel)) rfl
set_option maxRecDepth 100000 in
theorem se_X0_put : Cond.selects yX0_put.cls yX0_put yX0_put ∈ gw := gm (List.mem_of_getElem? (i := 887) (by decide +kernel)) rfl
theorem dX4_lay_25 : decode cX4_lay 25 = .ok (.return_, 1) := by decide +kernel
set_option maxHeartbeats 4000000 in
set_option maxRecDepth 100000 in
theorem c152_X4_lay (l : Launch) (G : va_G) (cI cJ cB cZ : ClassId) (a0 a1 a2 a3 a4 a5 a6 a7 a8 a9 a10 a11 a12 a13 a14 a15 a16 a17 a18 a19 : Nat) (g : Nat) (b2 : Int64) (v_se_7 : Int32) (v_se_8 : Int32) (v_se_9 : Int32) (v_se_10 : Int32) (v_fo_1 : Int32) (v_fo_2 : Int32) (w_fo_3 : Int64) (v_fo_4 : Int32) (v_fo_5 : Int32) (w_fo_6 : Int64) (v_V_0 : Int32) (v_V_1 : Int32) (v_V_2 : Int32) (v_V_5 : Int32) (g_V_off : Nat → Int32) (g_se_least : Nat → Int32) (g_se_most : Nat → Int32) (g_fo_rows : Nat → Int64) (hv_0 : 0 ≤ v_se_8.toInt) (hv_1 : v_se_9.toInt ≤ 2147483646) (hv_2 : 0 ≤ v_fo_1.toInt) (hv_3 : v_fo_1.toInt ≤ 300000) (hv_4 : 0 ≤ v_fo_2.toInt) (hv_5 : v_fo_2.toInt ≤ 1) (hv_6 : 0 ≤ v_fo_5.toInt) (hv_7 : v_fo_5.toInt ≤ 1) (hv_8 : 0 ≤ v_V_0.toInt) (hv_9 : v_V_0.toInt ≤ 110) (hv_10 : 0 ≤ v_V_1.toInt) (hv_11 : v_V_1.toInt ≤ 110) (hv_12 : 0 ≤ v_V_5.toInt) (hv_13 : v_V_5.toInt ≤ 6) (hv_14 : g ≤ 11) (hv_15 : (v_fo_1.toInt ≤ ((fl g : Nat) : Int))) (hT_g_V_off : TA 0 4 g_V_off) (hT_g_se_least : TA 0 2147483647 g_se_least) (hT_g_se_most : TA (-2147483648) 2147483646 g_se_most) (hSz : (v_fo_1 : Int32).toInt + KKf g_V_off (v_V_5 : Int32).toInt 0 ≤ 300000) (hSP : SPn g_V_off g_se_least g_se_most (v_V_5 : Int32).toInt) : ConG l G (TY cI cJ cB cZ) yX4_lay cX4_lay 6 none ({ frames := 4, cells := 11 - g, slots := fs 11 - fs g, locals := 122 } : Room) [.ref a0, .int 6, .long b2] [(a0, .inr (4, [.ref a1, .ref a2, .ref a3, .ref a4, .ref a5, .ref a6, .ref a7, .int v_se_7, .int v_se_8, .int v_se_9, .int v_se_10])), (a2, .inr (0, [.ref a8, .int v_fo_1, .int v_fo_2, .long w_fo_3, .int v_fo_4, .int v_fo_5, .long w_fo_6])), (a9, .inl (cI, 6, .inl g_V_off)), (a1, .inr (7, [.int v_V_0, .int v_V_1, .int v_V_2, .ref a10, .ref a11, .int v_V_5, .ref a12, .ref a13, .ref a14, .ref a9, .ref a15, .ref a16, .ref a17, .ref a18, .ref a19])), (a6, .inl (cI, 6, .inl g_se_least)), (a7, .inl (cI, 6, .inl g_se_most)), (a8, .inl (cJ, (fl g), .inr (.inl g_fo_rows)))] (QVG G (TY cI cJ cB cZ) g (fun u : Int32 × (Nat → Int64) × Nat × Nat => u.2.2.1) (fun u : Int32 × (Nat → Int64) × Nat × Nat => (1 ≤ u.1.toInt ∧ u.1.toInt ≤ 300000 ∧ g ≤ u.2.2.1 ∧ u.2.2.1 ≤ 11 ∧ u.1.toInt ≤ ((fl u.2.2.1 : Nat) : Int)) ∧ ((u.1 : Int32).toInt ≤ (v_fo_1 : Int32).toInt + KKf g_V_off (v_V_5 : Int32).toInt 0)) (fun u : Int32 × (Nat → Int64) × Nat × Nat => [(a0, .inr (4, [.ref a1, .ref a2, .ref a3, .ref a4, .ref a5, .ref a6, .ref a7, .int v_se_7, .int v_se_8, .int v_se_9, .int v_se_10])), (a2, .inr (0, [.ref u.2.2.2, .int u.1, .int v_fo_2, .long w_fo_3, .int v_fo_4, .int v_fo_5, .long w_fo_6])), (a9, .inl (cI, 6, .inl g_V_off)), (a1, .inr (7, [.int v_V_0, .int v_V_1, .int v_V_2, .ref a10, .ref a11, .int v_V_5, .ref a12, .ref a13, .ref a14, .ref a9, .ref a15, .ref a16, .ref a17, .ref a18, .ref a19])), (a6, .inl (cI, 6, .inl g_se_least)), (a7, .inl (cI, 6, .inl g_se_most)), (u.2.2.2, .inl (cJ, (fl u.2.2.1), .inr (.inl u.2.1)))])) := by
  refine k_metG (by decide) (Nat.le_of_ble_eq_true rfl) ?_
  intro p e s m below meth c A ls hC hr hlk hnm hN hZ hK hA hP hD hS hl
  have hl : lv_has ls 6 [(0, .ref a0), (1, .int 6), (2, .long b2)] := hl
  generalize hQm : MQ below _ _ s _ _ A = Qm
  generalize (List.toArray _ : Array Value) = args at hC hQm ⊢
  obtain ⟨hx, hb, hml, hown, hts⟩ := id hC
  obtain ⟨H, hH⟩ : ∃ q, q = s.heap := ⟨_, rfl⟩
  obtain ⟨locs, hlo⟩ : ∃ q : List Loc, q = [] := ⟨_, rfl⟩
  have hP : va_P G cl [(a0, .inr (4, [.ref a1, .ref a2, .ref a3, .ref a4, .ref a5, .ref a6, .ref a7, .int v_se_7, .int v_se_8, .int v_se_9, .int v_se_10])), (a2, .inr (0, [.ref a8, .int v_fo_1, .int v_fo_2, .long w_fo_3, .int v_fo_4, .int v_fo_5, .long w_fo_6])), (a9, .inl (cI, 6, .inl g_V_off)), (a1, .inr (7, [.int v_V_0, .int v_V_1, .int v_V_2, .ref a10, .ref a11, .int v_V_5, .ref a12, .ref a13, .ref a14, .ref a9, .ref a15, .ref a16, .ref a17, .ref a18, .ref a19])), (a6, .inl (cI, 6, .inl g_se_least)), (a7, .inl (cI, 6, .inl g_se_most)), (a8, .inl (cJ, (fl g), .inr (.inl g_fo_rows)))] H := by rw [hH]; exact hP
  have hS : va_S A s.heap H locs := by rw [hH, hlo]; exact hS
  rw [← hlo]
  rw [← hH]
  refine W.tight (k := g - g) (n := fs g - fs g) (by rw [hH]; exact GR.rf) ?_
  have kp_ := KKf_pos hT_g_V_off (v_V_5 : Int32).toInt 0
  refine lv_iload_n hx hb dX4_lay_0 rfl (lv_at hl 1 rfl) ?_
  refine lv_aload_n hx hb dX4_lay_1 rfl (lv_at hl 0 rfl) ?_
  refine k_get hC hK hP iX4 0 0 wf_X4_12 rfl (by decide) rfl rfl dX4_lay_2 ?_
  refine k_getN hC hN hK hP iX7 3 5 wf_X4_109 rfl (by decide) rfl rfl dX4_lay_5 ?_
  refine lv_icmp_ge (tgt := 17) hx hb dX4_lay_8 (by decide) (fun c1 => ?_) (fun c1 => by have dc1 : 6 < v_V_5.toInt := fa_nle c1; omega)
  have dc1 : v_V_5.toInt ≤ 6 := (fa_le _ _).mp c1
  have as2 : 0 ≤ v_fo_1.toInt ∧ v_fo_1.toInt ≤ 299999 := by omega
  refine lv_aload_n hx hb dX4_lay_17 rfl (lv_at hl 0 rfl) ?_
  refine k_get hC hK hP iX4 0 1 wf_X4_21 rfl (by decide) rfl rfl dX4_lay_18 ?_
  refine lv_lload_n hx hb dX4_lay_21 rfl (lv_at hl 2 rfl) ?_
  refine W.know (fun hgr => ?_)
  refine k_cvG (wr := [(a0, .inr (4, [.ref a1, .ref a2, .ref a3, .ref a4, .ref a5, .ref a6, .ref a7, .int v_se_7, .int v_se_8, .int v_se_9, .int v_se_10])), (a9, .inl (cI, 6, .inl g_V_off)), (a1, .inr (7, [.int v_V_0, .int v_V_1, .int v_V_2, .ref a10, .ref a11, .int v_V_5, .ref a12, .ref a13, .ref a14, .ref a9, .ref a15, .ref a16, .ref a17, .ref a18, .ref a19])), (a6, .inl (cI, 6, .inl g_se_least)), (a7, .inl (cI, 6, .inl g_se_most))]) (k_rVG hC hN hZ hS hA hK hP hD (c149_X0_put l G cI cJ cB cZ a2 a8 g b2 v_fo_1 v_fo_2 w_fo_3 v_fo_4 v_fo_5 w_fo_6 g_fo_rows hv_2 (by omega) hv_4 hv_5 hv_6 hv_7 hv_14 hv_15) [1, 6] rfl (by decide +kernel) mi_X0_put in_X0_put se_X0_put wm_X4_122 0 1 rfl rfl rfl hl.1 rfl rfl (Nat.le_of_ble_eq_true rfl) ⟨(Nat.le_of_ble_eq_true rfl), (Nat.le_of_ble_eq_true rfl)⟩ dX4_lay_22 (gr_rG (by omega) (by omega))) hP hD hS hA [1, 6] [0, 2, 3, 4, 5] rfl rfl (by decide +kernel) (by decide +kernel) (fun u3 H locs hp hP hD hS hgn => ?_)
  obtain ⟨h4, f5, g6, ad7⟩ := u3
  have hp : (1 ≤ h4.toInt ∧ h4.toInt ≤ 300000 ∧ (h4.toInt = v_fo_1.toInt + 1) ∧ g ≤ g6 ∧ g6 ≤ 11 ∧ h4.toInt ≤ ((fl g6 : Nat) : Int)) := hp
  have hP : va_P G cl [(a0, .inr (4, [.ref a1, .ref a2, .ref a3, .ref a4, .ref a5, .ref a6, .ref a7, .int v_se_7, .int v_se_8, .int v_se_9, .int v_se_10])), (a9, .inl (cI, 6, .inl g_V_off)), (a1, .inr (7, [.int v_V_0, .int v_V_1, .int v_V_2, .ref a10, .ref a11, .int v_V_5, .ref a12, .ref a13, .ref a14, .ref a9, .ref a15, .ref a16, .ref a17, .ref a18, .ref a19])), (a6, .inl (cI, 6, .inl g_se_least)), (a7, .inl (cI, 6, .inl g_se_most)), (a2, .inr (0, [.ref ad7, .int h4, .int v_fo_2, .long w_fo_3, .int v_fo_4, .int v_fo_5, .long w_fo_6])), (ad7, .inl (cJ, (fl g6), .inr (.inl f5)))] H := hP
  have hD : va_D A [(a0, .inr (4, [.ref a1, .ref a2, .ref a3, .ref a4, .ref a5, .ref a6, .ref a7, .int v_se_7, .int v_se_8, .int v_se_9, .int v_se_10])), (a9, .inl (cI, 6, .inl g_V_off)), (a1, .inr (7, [.int v_V_0, .int v_V_1, .int v_V_2, .ref a10, .ref a11, .int v_V_5, .ref a12, .ref a13, .ref a14, .ref a9, .ref a15, .ref a16, .ref a17, .ref a18, .ref a19])), (a6, .inl (cI, 6, .inl g_se_least)), (a7, .inl (cI, 6, .inl g_se_most)), (a2, .inr (0, [.ref ad7, .int h4, .int v_fo_2, .long w_fo_3, .int v_fo_4, .int v_fo_5, .long w_fo_6])), (ad7, .inl (cJ, (fl g6), .inr (.inl f5)))] := hD
  have hq3 := hp
  refine W.tight (k := g6 - g) (n := fs g6 - fs g) (GR.tr3 hgr hgn (by omega) (by omega)) ?_
  refine W.know (fun hgr => ?_)
  rw [← hQm]
  exact k_vretG hC hr hlk hK hP hD hS (h4, f5, g6, ad7) [0, 5, 1, 2, 3, 4, 6] rfl (by decide +kernel) ⟨(show 1 ≤ h4.toInt ∧ h4.toInt ≤ 300000 ∧ g ≤ g6 ∧ g6 ≤ 11 ∧ h4.toInt ≤ ((fl g6 : Nat) : Int) from by omega), (show (h4 : Int32).toInt ≤ (v_fo_1 : Int32).toInt + KKf g_V_off (v_V_5 : Int32).toInt 0 from by first | omega | (have q_ := hLK.1; omega))⟩ hgr (gr_lc (by omega) (by omega)) (gr_ls (by omega) (by omega)) dX4_lay_25
theorem dX4_lay_11 : decode cX4_lay 11 = .ok (.iload_n 1, 1) := by decide +kernel
theorem dX4_lay_12 : decode cX4_lay 12 = .ok (.bipush 6, 2) := by decide +kernel
theorem dX4_lay_14 : decode cX4_lay 14 = .ok (.if_icmp .lt 12, 3) := by decide +kernel
theorem dX4_lay_26 : decode cX4_lay 26 = .ok (.aload_n 0, 1) := by decide +kernel
theorem dX4_lay_27 : decode cX4_lay 27 = .ok (.aload_n 0, 1) := by decide +kernel
theorem dX4_lay_28 : decode cX4_lay 28 = .ok (.getfield 41, 3) := by decide +kernel
theorem dX4_lay_31 : decode cX4_lay 31 = .ok (.iload_n 1, 1) := by decide +kernel
theorem dX4_lay_32 : decode cX4_lay 32 = .ok (.iaload, 1) := by decide +kernel
theorem dX4_lay_33 : decode cX4_lay 33 = .ok (.putfield 51, 3) := by decide +kernel
theorem dX4_lay_36 : decode cX4_lay 36 = .ok (.aload_n 0, 1) := by decide +kernel
theorem dX4_lay_37 : decode cX4_lay 37 = .ok (.aload_n 0, 1) := by decide +kernel
theorem dX4_lay_38 : decode cX4_lay 38 = .ok (.getfield 44, 3) := by decide +kernel
theorem dX4_lay_41 : decode cX4_lay 41 = .ok (.iload_n 1, 1) := by decide +kernel
theorem dX4_lay_42 : decode cX4_lay 42 = .ok (.iaload, 1) := by decide +kernel
theorem dX4_lay_43 : decode cX4_lay 43 = .ok (.putfield 54, 3) := by decide +kernel
theorem dX4_lay_46 : decode cX4_lay 46 = .ok (.aload_n 0, 1) := by decide +kernel
theorem dX4_lay_47 : decode cX4_lay 47 = .ok (.getfield 34, 3) := by decide +kernel
theorem dX4_lay_50 : decode cX4_lay 50 = .ok (.iload_n 1, 1) := by decide +kernel
theorem dX4_lay_51 : decode cX4_lay 51 = .ok (.iaload, 1) := by decide +kernel
theorem dX4_lay_52 : decode cX4_lay 52 = .ok (.istore 4, 2) := by decide +kernel
theorem dX4_lay_54 : decode cX4_lay 54 = .ok (.iload 4, 2) := by decide +kernel
theorem dX4_lay_56 : decode cX4_lay 56 = .ok (.aload_n 0, 1) := by decide +kernel
theorem dX4_lay_57 : decode cX4_lay 57 = .ok (.getfield 34, 3) := by decide +kernel
theorem dX4_lay_60 : decode cX4_lay 60 = .ok (.iload_n 1, 1) := by decide +kernel
theorem dX4_lay_61 : decode cX4_lay 61 = .ok (.iconst 1, 1) := by decide +kernel
theorem dX4_lay_62 : decode cX4_lay 62 = .ok (.iadd, 1) := by decide +kernel
theorem dX4_lay_63 : decode cX4_lay 63 = .ok (.iaload, 1) := by decide +kernel
theorem dX4_lay_64 : decode cX4_lay 64 = .ok (.if_icmp .ge 16, 3) := by decide +kernel
theorem dX4_lay_80 : decode cX4_lay 80 = .ok (.aload_n 0, 1) := by decide +kernel
theorem dX4_lay_81 : decode cX4_lay 81 = .ok (.getfield 54, 3) := by decide +kernel
theorem dX4_lay_84 : decode cX4_lay 84 = .ok (.istore 4, 2) := by decide +kernel
theorem dX4_lay_86 : decode cX4_lay 86 = .ok (.aload_n 0, 1) := by decide +kernel
theorem dX4_lay_87 : decode cX4_lay 87 = .ok (.getfield 51, 3) := by decide +kernel
theorem dX4_lay_90 : decode cX4_lay 90 = .ok (.istore 5, 2) := by decide +kernel
theorem dX4_lay_92 : decode cX4_lay 92 = .ok (.iload 5, 2) := by decide +kernel
theorem dX4_lay_94 : decode cX4_lay 94 = .ok (.iload 4, 2) := by decide +kernel
theorem dX4_lay_96 : decode cX4_lay 96 = .ok (.if_icmp .gt 31, 3) := by decide +kernel
theorem dX4_lay_127 : decode cX4_lay 127 = .ok (.return_, 1) := by decide +kernel
theorem dX4_lay_99 : decode cX4_lay 99 = .ok (.aload_n 0, 1) := by decide +kernel
theorem dX4_lay_100 : decode cX4_lay 100 = .ok (.getfield 38, 3) := by decide +kernel
theorem dX4_lay_103 : decode cX4_lay 103 = .ok (.iload_n 1, 1) := by decide +kernel
theorem dX4_lay_104 : decode cX4_lay 104 = .ok (.iload 5, 2) := by decide +kernel
theorem dX4_lay_106 : decode cX4_lay 106 = .ok (.iastore, 1) := by decide +kernel
theorem dX4_lay_107 : decode cX4_lay 107 = .ok (.aload_n 0, 1) := by decide +kernel
theorem dX4_lay_108 : decode cX4_lay 108 = .ok (.iload_n 1, 1) := by decide +kernel
theorem dX4_lay_109 : decode cX4_lay 109 = .ok (.iconst 1, 1) := by decide +kernel
theorem dX4_lay_110 : decode cX4_lay 110 = .ok (.iadd, 1) := by decide +kernel
theorem dX4_lay_111 : decode cX4_lay 111 = .ok (.lload_n 2, 1) := by decide +kernel
theorem dX4_lay_112 : decode cX4_lay 112 = .ok (.iload_n 1, 1) := by decide +kernel
theorem dX4_lay_113 : decode cX4_lay 113 = .ok (.iload 5, 2) := by decide +kernel
theorem dX4_lay_115 : decode cX4_lay 115 = .ok (.invokestatic 129, 3) := by decide +kernel
set_option maxRecDepth 100000 in
theorem wm_X4_129 : Cond.methodLink RX4 129 yX0_withWeight ∈ gw := gm (List.mem_of_getElem? (i := 923) (by decide +kernel)) rfl
set_option maxRecDepth 100000 in
theorem mi_X0_withWeight : MI yX0_withWeight cX0_withWeight 4 (some .long) 3 := ⟨gm (List.mem_of_getElem? (i := 925) rfl) rfl, gm (List.mem_of_getElem? (i := 121) (by decide +kernel)) rfl, by decide, by decide, by decide +kernel⟩
set_option maxRecDepth 100000 in
theorem st_X0_withWeight : Cond.static yX0_withWeight ∈ gw := gm (List.mem_of_getElem? (i := 924) (by decide +kernel)) rfl
theorem dX4_lay_118 : decode cX4_lay 118 = .ok (.invokevirtual 105, 3) := by decide +kernel
set_option maxRecDepth 100000 in
theorem wm_X4_105 : Cond.methodLink RX4 105 yX4_lay ∈ gw := gm (List.mem_of_getElem? (i := 881) (by decide +kernel)) rfl
set_option maxRecDepth 100000 in
theorem mi_X4_lay : MI yX4_lay cX4_lay 6 none 2 := ⟨gm (List.mem_of_getElem? (i := 884) rfl) rfl, gm (List.mem_of_getElem? (i := 120) (by decide +kernel)) rfl, by decide, by decide, by decide +kernel⟩
set_option maxRecDepth 100000 in
theorem in_X4_lay : Cond.instanceMethod yX4_lay ∈ gw := gm (List.mem_of_getElem? (i := 883) (by decide +kernel)) rfl
set_option maxRecDepth 100000 in
theorem se_X4_lay : Cond.selects yX4_lay.cls yX4_lay yX4_lay ∈ gw := gm (List.mem_of_getElem? (i := 31) (by decide +kernel)) rfl
theorem dX4_lay_121 : decode cX4_lay 121 = .ok (.iinc 5 1, 3) := by decide +kernel
theorem dX4_lay_124 : decode cX4_lay 124 = .ok (.goto (-32), 3) := by decide +kernel
theorem dX4_lay_67 : decode cX4_lay 67 = .ok (.aload_n 0, 1) := by decide +kernel
theorem dX4_lay_68 : decode cX4_lay 68 = .ok (.iload 4, 2) := by decide +kernel
theorem dX4_lay_70 : decode cX4_lay 70 = .ok (.iload_n 1, 1) := by decide +kernel
theorem dX4_lay_71 : decode cX4_lay 71 = .ok (.invokevirtual 126, 3) := by decide +kernel
set_option maxRecDepth 100000 in
theorem wm_X4_126 : Cond.methodLink RX4 126 yX4_narrow ∈ gw := gm (List.mem_of_getElem? (i := 905) (by decide +kernel)) rfl
set_option maxRecDepth 100000 in
theorem mi_X4_narrow : MI yX4_narrow cX4_narrow 12 none 2 := ⟨gm (List.mem_of_getElem? (i := 908) rfl) rfl, gm (List.mem_of_getElem? (i := 120) (by decide +kernel)) rfl, by decide, by decide, by decide +kernel⟩
set_option maxRecDepth 100000 in
theorem in_X4_narrow : Cond.instanceMethod yX4_narrow ∈ gw := gm (List.mem_of_getElem? (i := 907) (by decide +kernel)) rfl
set_option maxRecDepth 100000 in
theorem se_X4_narrow : Cond.selects yX4_narrow.cls yX4_narrow yX4_narrow ∈ gw := gm (List.mem_of_getElem? (i := 32) (by decide +kernel)) rfl
theorem dX4_lay_74 : decode cX4_lay 74 = .ok (.iinc 4 1, 3) := by decide +kernel
theorem dX4_lay_77 : decode cX4_lay 77 = .ok (.goto (-23), 3) := by decide +kernel
set_option maxHeartbeats 4000000 in
set_option maxRecDepth 100000 in
theorem c153_X4_lay (l : Launch) (G : va_G) (cI cJ cB cZ : ClassId) (a0 a1 a2 a3 a4 a5 a6 a7 a8 a9 a10 a11 a12 a13 a14 a15 a16 a17 a18 a19 a20 a21 a22 a23 a24 a25 a26 : Nat) (g : Nat) (b2 : Int64) (v_se_7 : Int32) (v_se_8 : Int32) (v_se_9 : Int32) (v_se_10 : Int32) (v_fo_1 : Int32) (v_fo_2 : Int32) (w_fo_3 : Int64) (v_fo_4 : Int32) (v_fo_5 : Int32) (w_fo_6 : Int64) (v_V_0 : Int32) (v_V_1 : Int32) (v_V_2 : Int32) (v_V_5 : Int32) (v_cn_7 : Int32) (g_V_off : Nat → Int32) (g_se_least : Nat → Int32) (g_se_most : Nat → Int32) (g_fo_rows : Nat → Int64) (g_se_firstOf : Nat → Int32) (g_cn_left : Nat → Int32) (g_cn_right : Nat → Int32) (g_cn_year : Nat → Int32) (g_se_weight : Nat → Int32) (g_V_worn : Nat → Int32) (g_cn_how : Nat → Int32) (hv_0 : 0 ≤ v_se_8.toInt) (hv_1 : v_se_9.toInt ≤ 2147483646) (hv_2 : 0 ≤ v_fo_1.toInt) (hv_3 : v_fo_1.toInt ≤ 300000) (hv_4 : 0 ≤ v_fo_2.toInt) (hv_5 : v_fo_2.toInt ≤ 1) (hv_6 : 0 ≤ v_fo_5.toInt) (hv_7 : v_fo_5.toInt ≤ 1) (hv_8 : 0 ≤ v_V_0.toInt) (hv_9 : v_V_0.toInt ≤ 110) (hv_10 : 0 ≤ v_V_1.toInt) (hv_11 : v_V_1.toInt ≤ 110) (hv_12 : 0 ≤ v_V_5.toInt) (hv_13 : v_V_5.toInt ≤ 6) (hv_14 : 0 ≤ v_cn_7.toInt) (hv_15 : v_cn_7.toInt ≤ 46) (hv_16 : g ≤ 11) (hv_17 : (v_fo_1.toInt ≤ ((fl g : Nat) : Int))) (hT_g_V_off : TA 0 4 g_V_off) (hT_g_se_least : TA 0 2147483647 g_se_least) (hT_g_se_most : TA (-2147483648) 2147483646 g_se_most) (hT_g_se_firstOf : TA 0 46 g_se_firstOf) (hSz : (v_fo_1 : Int32).toInt + KKf g_V_off (v_V_5 : Int32).toInt 1 ≤ 300000) (hSP : SPn g_V_off g_se_least g_se_most (v_V_5 : Int32).toInt) : ConG l G (TY cI cJ cB cZ) yX4_lay cX4_lay 6 none ({ frames := 5, cells := 11 - g, slots := fs 11 - fs g, locals := 147 } : Room) [.ref a0, .int 5, .long b2] [(a0, .inr (4, [.ref a1, .ref a2, .ref a3, .ref a4, .ref a5, .ref a6, .ref a7, .int v_se_7, .int v_se_8, .int v_se_9, .int v_se_10])), (a2, .inr (0, [.ref a8, .int v_fo_1, .int v_fo_2, .long w_fo_3, .int v_fo_4, .int v_fo_5, .long w_fo_6])), (a9, .inl (cI, 6, .inl g_V_off)), (a1, .inr (7, [.int v_V_0, .int v_V_1, .int v_V_2, .ref a10, .ref a11, .int v_V_5, .ref a12, .ref a13, .ref a14, .ref a9, .ref a15, .ref a16, .ref a17, .ref a18, .ref a19])), (a6, .inl (cI, 6, .inl g_se_least)), (a7, .inl (cI, 6, .inl g_se_most)), (a8, .inl (cJ, (fl g), .inr (.inl g_fo_rows))), (a4, .inl (cI, 7, .inl g_se_firstOf)), (a3, .inr (8, [.ref a20, .ref a21, .ref a22, .ref a23, .ref a24, .ref a25, .ref a26, .int v_cn_7])), (a20, .inl (cI, 46, .inl g_cn_left)), (a21, .inl (cI, 46, .inl g_cn_right)), (a22, .inl (cI, 46, .inl g_cn_year)), (a5, .inl (cI, 6, .inl g_se_weight)), (a15, .inl (cI, 6, .inl g_V_worn)), (a24, .inl (cI, 46, .inl g_cn_how))] (QVG G (TY cI cJ cB cZ) g (fun u : Int32 × Int32 × Int32 × (Nat → Int64) × (Nat → Int32) × Nat × Nat => u.2.2.2.2.2.1) (fun u : Int32 × Int32 × Int32 × (Nat → Int64) × (Nat → Int32) × Nat × Nat => (0 ≤ u.1.toInt ∧ u.2.1.toInt ≤ 2147483646 ∧ 0 ≤ u.2.2.1.toInt ∧ u.2.2.1.toInt ≤ 300000 ∧ g ≤ u.2.2.2.2.2.1 ∧ u.2.2.2.2.2.1 ≤ 11 ∧ u.2.2.1.toInt ≤ ((fl u.2.2.2.2.2.1 : Nat) : Int)) ∧ ((u.2.2.1 : Int32).toInt ≤ (v_fo_1 : Int32).toInt + KKf g_V_off (v_V_5 : Int32).toInt 1)) (fun u : Int32 × Int32 × Int32 × (Nat → Int64) × (Nat → Int32) × Nat × Nat => [(a0, .inr (4, [.ref a1, .ref a2, .ref a3, .ref a4, .ref a5, .ref a6, .ref a7, .int v_se_7, .int u.1, .int u.2.1, .int v_se_10])), (a2, .inr (0, [.ref u.2.2.2.2.2.2, .int u.2.2.1, .int v_fo_2, .long w_fo_3, .int v_fo_4, .int v_fo_5, .long w_fo_6])), (a9, .inl (cI, 6, .inl g_V_off)), (a1, .inr (7, [.int v_V_0, .int v_V_1, .int v_V_2, .ref a10, .ref a11, .int v_V_5, .ref a12, .ref a13, .ref a14, .ref a9, .ref a15, .ref a16, .ref a17, .ref a18, .ref a19])), (a6, .inl (cI, 6, .inl g_se_least)), (a7, .inl (cI, 6, .inl g_se_most)), (u.2.2.2.2.2.2, .inl (cJ, (fl u.2.2.2.2.2.1), .inr (.inl u.2.2.2.1))), (a4, .inl (cI, 7, .inl g_se_firstOf)), (a3, .inr (8, [.ref a20, .ref a21, .ref a22, .ref a23, .ref a24, .ref a25, .ref a26, .int v_cn_7])), (a20, .inl (cI, 46, .inl g_cn_left)), (a21, .inl (cI, 46, .inl g_cn_right)), (a22, .inl (cI, 46, .inl g_cn_year)), (a5, .inl (cI, 6, .inl u.2.2.2.2.1)), (a15, .inl (cI, 6, .inl g_V_worn)), (a24, .inl (cI, 46, .inl g_cn_how))])) := by
  refine k_metG (by decide) (Nat.le_of_ble_eq_true rfl) ?_
  intro p e s m below meth c A ls hC hr hlk hnm hN hZ hK hA hP hD hS hl
  have hl : lv_has ls 6 [(0, .ref a0), (1, .int 5), (2, .long b2)] := hl
  generalize hQm : MQ below _ _ s _ _ A = Qm
  generalize (List.toArray _ : Array Value) = args at hC hQm ⊢
  obtain ⟨hx, hb, hml, hown, hts⟩ := id hC
  obtain ⟨H, hH⟩ : ∃ q, q = s.heap := ⟨_, rfl⟩
  obtain ⟨locs, hlo⟩ : ∃ q : List Loc, q = [] := ⟨_, rfl⟩
  have hP : va_P G cl [(a0, .inr (4, [.ref a1, .ref a2, .ref a3, .ref a4, .ref a5, .ref a6, .ref a7, .int v_se_7, .int v_se_8, .int v_se_9, .int v_se_10])), (a2, .inr (0, [.ref a8, .int v_fo_1, .int v_fo_2, .long w_fo_3, .int v_fo_4, .int v_fo_5, .long w_fo_6])), (a9, .inl (cI, 6, .inl g_V_off)), (a1, .inr (7, [.int v_V_0, .int v_V_1, .int v_V_2, .ref a10, .ref a11, .int v_V_5, .ref a12, .ref a13, .ref a14, .ref a9, .ref a15, .ref a16, .ref a17, .ref a18, .ref a19])), (a6, .inl (cI, 6, .inl g_se_least)), (a7, .inl (cI, 6, .inl g_se_most)), (a8, .inl (cJ, (fl g), .inr (.inl g_fo_rows))), (a4, .inl (cI, 7, .inl g_se_firstOf)), (a3, .inr (8, [.ref a20, .ref a21, .ref a22, .ref a23, .ref a24, .ref a25, .ref a26, .int v_cn_7])), (a20, .inl (cI, 46, .inl g_cn_left)), (a21, .inl (cI, 46, .inl g_cn_right)), (a22, .inl (cI, 46, .inl g_cn_year)), (a5, .inl (cI, 6, .inl g_se_weight)), (a15, .inl (cI, 6, .inl g_V_worn)), (a24, .inl (cI, 46, .inl g_cn_how))] H := by rw [hH]; exact hP
  have hS : va_S A s.heap H locs := by rw [hH, hlo]; exact hS
  rw [← hlo]
  rw [← hH]
  refine W.tight (k := g - g) (n := fs g - fs g) (by rw [hH]; exact GR.rf) ?_
  have kp_ := KKf_pos hT_g_V_off (v_V_5 : Int32).toInt 1
  refine lv_iload_n hx hb dX4_lay_0 rfl (lv_at hl 1 rfl) ?_
  refine lv_aload_n hx hb dX4_lay_1 rfl (lv_at hl 0 rfl) ?_
  refine k_get hC hK hP iX4 0 0 wf_X4_12 rfl (by decide) rfl rfl dX4_lay_2 ?_
  refine k_getN hC hN hK hP iX7 3 5 wf_X4_109 rfl (by decide) rfl rfl dX4_lay_5 ?_
  refine lv_icmp_ge (tgt := 17) hx hb dX4_lay_8 (by decide) (fun c1 => ?_) (fun c1 => ?_)
  · have dc1 : v_V_5.toInt ≤ 5 := (fa_le _ _).mp c1
    have as2 : 0 ≤ v_fo_1.toInt ∧ v_fo_1.toInt ≤ 299999 := by omega
    refine lv_aload_n hx hb dX4_lay_17 rfl (lv_at hl 0 rfl) ?_
    refine k_get hC hK hP iX4 0 1 wf_X4_21 rfl (by decide) rfl rfl dX4_lay_18 ?_
    refine lv_lload_n hx hb dX4_lay_21 rfl (lv_at hl 2 rfl) ?_
    refine W.know (fun hgr => ?_)
    refine k_cvG (wr := [(a0, .inr (4, [.ref a1, .ref a2, .ref a3, .ref a4, .ref a5, .ref a6, .ref a7, .int v_se_7, .int v_se_8, .int v_se_9, .int v_se_10])), (a9, .inl (cI, 6, .inl g_V_off)), (a1, .inr (7, [.int v_V_0, .int v_V_1, .int v_V_2, .ref a10, .ref a11, .int v_V_5, .ref a12, .ref a13, .ref a14, .ref a9, .ref a15, .ref a16, .ref a17, .ref a18, .ref a19])), (a6, .inl (cI, 6, .inl g_se_least)), (a7, .inl (cI, 6, .inl g_se_most)), (a4, .inl (cI, 7, .inl g_se_firstOf)), (a3, .inr (8, [.ref a20, .ref a21, .ref a22, .ref a23, .ref a24, .ref a25, .ref a26, .int v_cn_7])), (a20, .inl (cI, 46, .inl g_cn_left)), (a21, .inl (cI, 46, .inl g_cn_right)), (a22, .inl (cI, 46, .inl g_cn_year)), (a5, .inl (cI, 6, .inl g_se_weight)), (a15, .inl (cI, 6, .inl g_V_worn)), (a24, .inl (cI, 46, .inl g_cn_how))]) (k_rVG hC hN hZ hS hA hK hP hD (c149_X0_put l G cI cJ cB cZ a2 a8 g b2 v_fo_1 v_fo_2 w_fo_3 v_fo_4 v_fo_5 w_fo_6 g_fo_rows hv_2 (by omega) hv_4 hv_5 hv_6 hv_7 hv_16 hv_17) [1, 6] rfl (by decide +kernel) mi_X0_put in_X0_put se_X0_put wm_X4_122 0 1 rfl rfl rfl hl.1 rfl rfl (Nat.le_of_ble_eq_true rfl) ⟨(Nat.le_of_ble_eq_true rfl), (Nat.le_of_ble_eq_true rfl)⟩ dX4_lay_22 (gr_rG (by omega) (by omega))) hP hD hS hA [1, 6] [0, 2, 3, 4, 5, 7, 8, 9, 10, 11, 12, 13, 14] rfl rfl (by decide +kernel) (by decide +kernel) (fun u3 H locs hp hP hD hS hgn => ?_)
    obtain ⟨h4, f5, g6, ad7⟩ := u3
    have hp : (1 ≤ h4.toInt ∧ h4.toInt ≤ 300000 ∧ (h4.toInt = v_fo_1.toInt + 1) ∧ g ≤ g6 ∧ g6 ≤ 11 ∧ h4.toInt ≤ ((fl g6 : Nat) : Int)) := hp
    have hP : va_P G cl [(a0, .inr (4, [.ref a1, .ref a2, .ref a3, .ref a4, .ref a5, .ref a6, .ref a7, .int v_se_7, .int v_se_8, .int v_se_9, .int v_se_10])), (a9, .inl (cI, 6, .inl g_V_off)), (a1, .inr (7, [.int v_V_0, .int v_V_1, .int v_V_2, .ref a10, .ref a11, .int v_V_5, .ref a12, .ref a13, .ref a14, .ref a9, .ref a15, .ref a16, .ref a17, .ref a18, .ref a19])), (a6, .inl (cI, 6, .inl g_se_least)), (a7, .inl (cI, 6, .inl g_se_most)), (a4, .inl (cI, 7, .inl g_se_firstOf)), (a3, .inr (8, [.ref a20, .ref a21, .ref a22, .ref a23, .ref a24, .ref a25, .ref a26, .int v_cn_7])), (a20, .inl (cI, 46, .inl g_cn_left)), (a21, .inl (cI, 46, .inl g_cn_right)), (a22, .inl (cI, 46, .inl g_cn_year)), (a5, .inl (cI, 6, .inl g_se_weight)), (a15, .inl (cI, 6, .inl g_V_worn)), (a24, .inl (cI, 46, .inl g_cn_how)), (a2, .inr (0, [.ref ad7, .int h4, .int v_fo_2, .long w_fo_3, .int v_fo_4, .int v_fo_5, .long w_fo_6])), (ad7, .inl (cJ, (fl g6), .inr (.inl f5)))] H := hP
    have hD : va_D A [(a0, .inr (4, [.ref a1, .ref a2, .ref a3, .ref a4, .ref a5, .ref a6, .ref a7, .int v_se_7, .int v_se_8, .int v_se_9, .int v_se_10])), (a9, .inl (cI, 6, .inl g_V_off)), (a1, .inr (7, [.int v_V_0, .int v_V_1, .int v_V_2, .ref a10, .ref a11, .int v_V_5, .ref a12, .ref a13, .ref a14, .ref a9, .ref a15, .ref a16, .ref a17, .ref a18, .ref a19])), (a6, .inl (cI, 6, .inl g_se_least)), (a7, .inl (cI, 6, .inl g_se_most)), (a4, .inl (cI, 7, .inl g_se_firstOf)), (a3, .inr (8, [.ref a20, .ref a21, .ref a22, .ref a23, .ref a24, .ref a25, .ref a26, .int v_cn_7])), (a20, .inl (cI, 46, .inl g_cn_left)), (a21, .inl (cI, 46, .inl g_cn_right)), (a22, .inl (cI, 46, .inl g_cn_year)), (a5, .inl (cI, 6, .inl g_se_weight)), (a15, .inl (cI, 6, .inl g_V_worn)), (a24, .inl (cI, 46, .inl g_cn_how)), (a2, .inr (0, [.ref ad7, .int h4, .int v_fo_2, .long w_fo_3, .int v_fo_4, .int v_fo_5, .long w_fo_6])), (ad7, .inl (cJ, (fl g6), .inr (.inl f5)))] := hD
    have hq3 := hp
    refine W.tight (k := g6 - g) (n := fs g6 - fs g) (GR.tr3 hgr hgn (by omega) (by omega)) ?_
    refine W.know (fun hgr => ?_)
    rw [← hQm]
    exact k_vretG hC hr hlk hK hP hD hS (v_se_8, v_se_9, h4, f5, g_se_weight, g6, ad7) [0, 13, 1, 2, 3, 4, 14, 5, 6, 7, 8, 9, 10, 11, 12] rfl (by decide +kernel) ⟨(show 0 ≤ v_se_8.toInt ∧ v_se_9.toInt ≤ 2147483646 ∧ 0 ≤ h4.toInt ∧ h4.toInt ≤ 300000 ∧ g ≤ g6 ∧ g6 ≤ 11 ∧ h4.toInt ≤ ((fl g6 : Nat) : Int) from by omega), (show (h4 : Int32).toInt ≤ (v_fo_1 : Int32).toInt + KKf g_V_off (v_V_5 : Int32).toInt 1 from by first | omega | (have q_ := hLK.1; omega))⟩ hgr (gr_lc (by omega) (by omega)) (gr_ls (by omega) (by omega)) dX4_lay_25
  · have dc1 : 5 < v_V_5.toInt := fa_nle c1
    refine lv_iload_n hx hb dX4_lay_11 rfl (lv_at hl 1 rfl) ?_
    refine lv_bipush (v := 6) hx hb dX4_lay_12 (by decide) ?_
    refine lv_icmp_lt (tgt := 26) hx hb dX4_lay_14 (by decide) (fun _ => ?_) (fun c_ => absurd (by decide +kernel) c_)
    have kin_ : KKf g_V_off (v_V_5 : Int32).toInt 1 = (2 * gI g_V_off 5 + 1) * KKf g_V_off (v_V_5 : Int32).toInt 0 := KKf_in 0 (by decide) (by omega)
    have kp2_ := KKf_pos hT_g_V_off (v_V_5 : Int32).toInt 0
    have sp_ := hSP 5 (by decide) (by omega)
    refine lv_aload_n hx hb dX4_lay_26 rfl (lv_at hl 0 rfl) ?_
    refine lv_aload_n hx hb dX4_lay_27 rfl (lv_at hl 0 rfl) ?_
    refine k_get hC hK hP iX4 0 5 wf_X4_41 rfl (by decide) rfl rfl dX4_lay_28 ?_
    refine lv_iload_n hx hb dX4_lay_31 rfl (lv_at hl 1 rfl) ?_
    refine t_ialdX hC hK hP 4 rfl (by decide) (by decide) hT_g_se_least dX4_lay_32 (fun z8 tz8 ex_32 => ?_)
    refine k_put hC hK hP hD hS iX4 tyX4_ok nmX4 0 8 wf_X4_51 rfl (by decide) rfl rfl rfl rfl (Nat.le_of_ble_eq_true rfl) dX4_lay_33 (fun H locs hP hD hS => ?_)
    have hP : va_P G cl [(a0, .inr (4, [.ref a1, .ref a2, .ref a3, .ref a4, .ref a5, .ref a6, .ref a7, .int v_se_7, .int z8, .int v_se_9, .int v_se_10])), (a2, .inr (0, [.ref a8, .int v_fo_1, .int v_fo_2, .long w_fo_3, .int v_fo_4, .int v_fo_5, .long w_fo_6])), (a9, .inl (cI, 6, .inl g_V_off)), (a1, .inr (7, [.int v_V_0, .int v_V_1, .int v_V_2, .ref a10, .ref a11, .int v_V_5, .ref a12, .ref a13, .ref a14, .ref a9, .ref a15, .ref a16, .ref a17, .ref a18, .ref a19])), (a6, .inl (cI, 6, .inl g_se_least)), (a7, .inl (cI, 6, .inl g_se_most)), (a8, .inl (cJ, (fl g), .inr (.inl g_fo_rows))), (a4, .inl (cI, 7, .inl g_se_firstOf)), (a3, .inr (8, [.ref a20, .ref a21, .ref a22, .ref a23, .ref a24, .ref a25, .ref a26, .int v_cn_7])), (a20, .inl (cI, 46, .inl g_cn_left)), (a21, .inl (cI, 46, .inl g_cn_right)), (a22, .inl (cI, 46, .inl g_cn_year)), (a5, .inl (cI, 6, .inl g_se_weight)), (a15, .inl (cI, 6, .inl g_V_worn)), (a24, .inl (cI, 46, .inl g_cn_how))] H := hP
    have hD : va_D A [(a0, .inr (4, [.ref a1, .ref a2, .ref a3, .ref a4, .ref a5, .ref a6, .ref a7, .int v_se_7, .int z8, .int v_se_9, .int v_se_10])), (a2, .inr (0, [.ref a8, .int v_fo_1, .int v_fo_2, .long w_fo_3, .int v_fo_4, .int v_fo_5, .long w_fo_6])), (a9, .inl (cI, 6, .inl g_V_off)), (a1, .inr (7, [.int v_V_0, .int v_V_1, .int v_V_2, .ref a10, .ref a11, .int v_V_5, .ref a12, .ref a13, .ref a14, .ref a9, .ref a15, .ref a16, .ref a17, .ref a18, .ref a19])), (a6, .inl (cI, 6, .inl g_se_least)), (a7, .inl (cI, 6, .inl g_se_most)), (a8, .inl (cJ, (fl g), .inr (.inl g_fo_rows))), (a4, .inl (cI, 7, .inl g_se_firstOf)), (a3, .inr (8, [.ref a20, .ref a21, .ref a22, .ref a23, .ref a24, .ref a25, .ref a26, .int v_cn_7])), (a20, .inl (cI, 46, .inl g_cn_left)), (a21, .inl (cI, 46, .inl g_cn_right)), (a22, .inl (cI, 46, .inl g_cn_year)), (a5, .inl (cI, 6, .inl g_se_weight)), (a15, .inl (cI, 6, .inl g_V_worn)), (a24, .inl (cI, 46, .inl g_cn_how))] := hD
    refine lv_aload_n hx hb dX4_lay_36 rfl (lv_at hl 0 rfl) ?_
    refine lv_aload_n hx hb dX4_lay_37 rfl (lv_at hl 0 rfl) ?_
    refine k_get hC hK hP iX4 0 6 wf_X4_44 rfl (by decide) rfl rfl dX4_lay_38 ?_
    refine lv_iload_n hx hb dX4_lay_41 rfl (lv_at hl 1 rfl) ?_
    refine t_ialdX hC hK hP 5 rfl (by decide) (by decide) hT_g_se_most dX4_lay_42 (fun z9 tz9 ex_42 => ?_)
    refine k_put hC hK hP hD hS iX4 tyX4_ok nmX4 0 9 wf_X4_54 rfl (by decide) rfl rfl rfl rfl (Nat.le_of_ble_eq_true rfl) dX4_lay_43 (fun H locs hP hD hS => ?_)
    have hP : va_P G cl [(a0, .inr (4, [.ref a1, .ref a2, .ref a3, .ref a4, .ref a5, .ref a6, .ref a7, .int v_se_7, .int z8, .int z9, .int v_se_10])), (a2, .inr (0, [.ref a8, .int v_fo_1, .int v_fo_2, .long w_fo_3, .int v_fo_4, .int v_fo_5, .long w_fo_6])), (a9, .inl (cI, 6, .inl g_V_off)), (a1, .inr (7, [.int v_V_0, .int v_V_1, .int v_V_2, .ref a10, .ref a11, .int v_V_5, .ref a12, .ref a13, .ref a14, .ref a9, .ref a15, .ref a16, .ref a17, .ref a18, .ref a19])), (a6, .inl (cI, 6, .inl g_se_least)), (a7, .inl (cI, 6, .inl g_se_most)), (a8, .inl (cJ, (fl g), .inr (.inl g_fo_rows))), (a4, .inl (cI, 7, .inl g_se_firstOf)), (a3, .inr (8, [.ref a20, .ref a21, .ref a22, .ref a23, .ref a24, .ref a25, .ref a26, .int v_cn_7])), (a20, .inl (cI, 46, .inl g_cn_left)), (a21, .inl (cI, 46, .inl g_cn_right)), (a22, .inl (cI, 46, .inl g_cn_year)), (a5, .inl (cI, 6, .inl g_se_weight)), (a15, .inl (cI, 6, .inl g_V_worn)), (a24, .inl (cI, 46, .inl g_cn_how))] H := hP
    have hD : va_D A [(a0, .inr (4, [.ref a1, .ref a2, .ref a3, .ref a4, .ref a5, .ref a6, .ref a7, .int v_se_7, .int z8, .int z9, .int v_se_10])), (a2, .inr (0, [.ref a8, .int v_fo_1, .int v_fo_2, .long w_fo_3, .int v_fo_4, .int v_fo_5, .long w_fo_6])), (a9, .inl (cI, 6, .inl g_V_off)), (a1, .inr (7, [.int v_V_0, .int v_V_1, .int v_V_2, .ref a10, .ref a11, .int v_V_5, .ref a12, .ref a13, .ref a14, .ref a9, .ref a15, .ref a16, .ref a17, .ref a18, .ref a19])), (a6, .inl (cI, 6, .inl g_se_least)), (a7, .inl (cI, 6, .inl g_se_most)), (a8, .inl (cJ, (fl g), .inr (.inl g_fo_rows))), (a4, .inl (cI, 7, .inl g_se_firstOf)), (a3, .inr (8, [.ref a20, .ref a21, .ref a22, .ref a23, .ref a24, .ref a25, .ref a26, .int v_cn_7])), (a20, .inl (cI, 46, .inl g_cn_left)), (a21, .inl (cI, 46, .inl g_cn_right)), (a22, .inl (cI, 46, .inl g_cn_year)), (a5, .inl (cI, 6, .inl g_se_weight)), (a15, .inl (cI, 6, .inl g_V_worn)), (a24, .inl (cI, 46, .inl g_cn_how))] := hD
    refine lv_aload_n hx hb dX4_lay_46 rfl (lv_at hl 0 rfl) ?_
    refine k_get hC hK hP iX4 0 3 wf_X4_34 rfl (by decide) rfl rfl dX4_lay_47 ?_
    refine lv_iload_n hx hb dX4_lay_50 rfl (lv_at hl 1 rfl) ?_
    refine t_ialdX hC hK hP 7 rfl (by decide) (by decide) hT_g_se_firstOf dX4_lay_51 (fun z10 tz10 ex_51 => ?_)
    refine lv_istore (lv' := [(4, .int z10), (0, .ref a0), (1, .int 5), (2, .long b2)]) hx hb dX4_lay_52 hl (by decide) rfl (fun ls hl => ?_)
    have L_54 : ∀ (n : Nat) (x11 : Int32) (h12 : Int32) (h13 : Int32) (H : Heap) (locs : List Loc) (ls : Array Slot), (0 ≤ x11.toInt ∧ x11.toInt ≤ 46 ∧ 0 ≤ h12.toInt ∧ h13.toInt ≤ 2147483646) → 46 - x11.toInt < (n : Int) → (NR (gI g_se_least 5) (gI g_se_most 5) (h12 : Int32).toInt (h13 : Int32).toInt) → va_P G cl [(a0, .inr (4, [.ref a1, .ref a2, .ref a3, .ref a4, .ref a5, .ref a6, .ref a7, .int v_se_7, .int h12, .int h13, .int v_se_10])), (a2, .inr (0, [.ref a8, .int v_fo_1, .int v_fo_2, .long w_fo_3, .int v_fo_4, .int v_fo_5, .long w_fo_6])), (a9, .inl (cI, 6, .inl g_V_off)), (a1, .inr (7, [.int v_V_0, .int v_V_1, .int v_V_2, .ref a10, .ref a11, .int v_V_5, .ref a12, .ref a13, .ref a14, .ref a9, .ref a15, .ref a16, .ref a17, .ref a18, .ref a19])), (a6, .inl (cI, 6, .inl g_se_least)), (a7, .inl (cI, 6, .inl g_se_most)), (a8, .inl (cJ, (fl g), .inr (.inl g_fo_rows))), (a4, .inl (cI, 7, .inl g_se_firstOf)), (a3, .inr (8, [.ref a20, .ref a21, .ref a22, .ref a23, .ref a24, .ref a25, .ref a26, .int v_cn_7])), (a20, .inl (cI, 46, .inl g_cn_left)), (a21, .inl (cI, 46, .inl g_cn_right)), (a22, .inl (cI, 46, .inl g_cn_year)), (a5, .inl (cI, 6, .inl g_se_weight)), (a15, .inl (cI, 6, .inl g_V_worn)), (a24, .inl (cI, 46, .inl g_cn_how))] H → va_D A [(a0, .inr (4, [.ref a1, .ref a2, .ref a3, .ref a4, .ref a5, .ref a6, .ref a7, .int v_se_7, .int h12, .int h13, .int v_se_10])), (a2, .inr (0, [.ref a8, .int v_fo_1, .int v_fo_2, .long w_fo_3, .int v_fo_4, .int v_fo_5, .long w_fo_6])), (a9, .inl (cI, 6, .inl g_V_off)), (a1, .inr (7, [.int v_V_0, .int v_V_1, .int v_V_2, .ref a10, .ref a11, .int v_V_5, .ref a12, .ref a13, .ref a14, .ref a9, .ref a15, .ref a16, .ref a17, .ref a18, .ref a19])), (a6, .inl (cI, 6, .inl g_se_least)), (a7, .inl (cI, 6, .inl g_se_most)), (a8, .inl (cJ, (fl g), .inr (.inl g_fo_rows))), (a4, .inl (cI, 7, .inl g_se_firstOf)), (a3, .inr (8, [.ref a20, .ref a21, .ref a22, .ref a23, .ref a24, .ref a25, .ref a26, .int v_cn_7])), (a20, .inl (cI, 46, .inl g_cn_left)), (a21, .inl (cI, 46, .inl g_cn_right)), (a22, .inl (cI, 46, .inl g_cn_year)), (a5, .inl (cI, 6, .inl g_se_weight)), (a15, .inl (cI, 6, .inl g_V_worn)), (a24, .inl (cI, 46, .inl g_cn_how))] → va_S A s.heap H locs → lv_has ls 6 [(0, .ref a0), (1, .int 5), (2, .long b2), (4, .int x11)] → W p l e ({ frames := 5, cells := 11 - g, slots := fs 11 - fs g, locals := 147 } : Room) s m args below meth c H locs (g - g) (fs g - fs g) Qm (F0 m 54 ls []) := by
      intro n
      induction n with
      | zero => intro x11 h12 h13 H locs ls hv hm; omega
      | succ n ih =>
        intro x11 h12 h13 H locs ls hv hm hNR hP hD hS hl
        refine lv_iload hx hb dX4_lay_54 (lv_at hl 3 rfl) ?_
        refine lv_aload_n hx hb dX4_lay_56 rfl (lv_at hl 0 rfl) ?_
        refine k_get hC hK hP iX4 0 3 wf_X4_34 rfl (by decide) rfl rfl dX4_lay_57 ?_
        refine lv_iload_n hx hb dX4_lay_60 rfl (lv_at hl 1 rfl) ?_
        refine lv_iconst (v := 1) hx hb dX4_lay_61 (by decide) ?_
        refine lv_iadd hx hb dX4_lay_62 ?_
        refine k_i 6 (by decide +kernel) ?_
        refine t_ialdX hC hK hP 7 rfl (by decide) (by decide) hT_g_se_firstOf dX4_lay_63 (fun z15 tz15 ex_63 => ?_)
        refine lv_icmp_ge (tgt := 80) hx hb dX4_lay_64 (by decide) (fun c16 => ?_) (fun c16 => ?_)
        · have dc16 : z15.toInt ≤ x11.toInt := (fa_le _ _).mp c16
          refine lv_aload_n hx hb dX4_lay_80 rfl (lv_at hl 0 rfl) ?_
          refine k_get hC hK hP iX4 0 9 wf_X4_54 rfl (by decide) rfl rfl dX4_lay_81 ?_
          refine lv_istore (lv' := [(4, .int h13), (0, .ref a0), (1, .int 5), (2, .long b2)]) hx hb dX4_lay_84 hl (by decide) rfl (fun ls hl => ?_)
          obtain ⟨Bs, hBs⟩ : ∃ q : Int, q = (v_fo_1 : Int32).toInt + KKf g_V_off (v_V_5 : Int32).toInt 1 := ⟨_, rfl⟩
          have hNR2 := hNR
          unfold NR at hNR2
          refine lv_aload_n hx hb dX4_lay_86 rfl (lv_at hl 1 rfl) ?_
          refine k_get hC hK hP iX4 0 8 wf_X4_51 rfl (by decide) rfl rfl dX4_lay_87 ?_
          refine lv_istore (lv' := [(5, .int h12), (4, .int h13), (0, .ref a0), (1, .int 5), (2, .long b2)]) hx hb dX4_lay_90 hl (by decide) rfl (fun ls hl => ?_)
          have L_92 : ∀ (n : Nat) (x17 : Int32) (g18 : Nat) (ad19 : Nat) (f20 : Nat → Int64) (h21 : Int32) (f22 : Nat → Int32) (H : Heap) (locs : List Loc) (ls : Array Slot), (0 ≤ x17.toInt ∧ g ≤ g18 ∧ g18 ≤ 11 ∧ 0 ≤ h21.toInt ∧ h21.toInt ≤ 300000 ∧ (h21.toInt ≤ ((fl g18 : Nat) : Int))) → 2147483647 - x17.toInt < (n : Int) → (LK (h21 : Int32).toInt (x17 : Int32).toInt (h13 : Int32).toInt (KKf g_V_off (v_V_5 : Int32).toInt 0) Bs) → va_P G cl [(a0, .inr (4, [.ref a1, .ref a2, .ref a3, .ref a4, .ref a5, .ref a6, .ref a7, .int v_se_7, .int h12, .int h13, .int v_se_10])), (a2, .inr (0, [.ref ad19, .int h21, .int v_fo_2, .long w_fo_3, .int v_fo_4, .int v_fo_5, .long w_fo_6])), (a9, .inl (cI, 6, .inl g_V_off)), (a1, .inr (7, [.int v_V_0, .int v_V_1, .int v_V_2, .ref a10, .ref a11, .int v_V_5, .ref a12, .ref a13, .ref a14, .ref a9, .ref a15, .ref a16, .ref a17, .ref a18, .ref a19])), (a6, .inl (cI, 6, .inl g_se_least)), (a7, .inl (cI, 6, .inl g_se_most)), (ad19, .inl (cJ, (fl g18), .inr (.inl f20))), (a4, .inl (cI, 7, .inl g_se_firstOf)), (a3, .inr (8, [.ref a20, .ref a21, .ref a22, .ref a23, .ref a24, .ref a25, .ref a26, .int v_cn_7])), (a20, .inl (cI, 46, .inl g_cn_left)), (a21, .inl (cI, 46, .inl g_cn_right)), (a22, .inl (cI, 46, .inl g_cn_year)), (a5, .inl (cI, 6, .inl f22)), (a15, .inl (cI, 6, .inl g_V_worn)), (a24, .inl (cI, 46, .inl g_cn_how))] H → va_D A [(a0, .inr (4, [.ref a1, .ref a2, .ref a3, .ref a4, .ref a5, .ref a6, .ref a7, .int v_se_7, .int h12, .int h13, .int v_se_10])), (a2, .inr (0, [.ref ad19, .int h21, .int v_fo_2, .long w_fo_3, .int v_fo_4, .int v_fo_5, .long w_fo_6])), (a9, .inl (cI, 6, .inl g_V_off)), (a1, .inr (7, [.int v_V_0, .int v_V_1, .int v_V_2, .ref a10, .ref a11, .int v_V_5, .ref a12, .ref a13, .ref a14, .ref a9, .ref a15, .ref a16, .ref a17, .ref a18, .ref a19])), (a6, .inl (cI, 6, .inl g_se_least)), (a7, .inl (cI, 6, .inl g_se_most)), (ad19, .inl (cJ, (fl g18), .inr (.inl f20))), (a4, .inl (cI, 7, .inl g_se_firstOf)), (a3, .inr (8, [.ref a20, .ref a21, .ref a22, .ref a23, .ref a24, .ref a25, .ref a26, .int v_cn_7])), (a20, .inl (cI, 46, .inl g_cn_left)), (a21, .inl (cI, 46, .inl g_cn_right)), (a22, .inl (cI, 46, .inl g_cn_year)), (a5, .inl (cI, 6, .inl f22)), (a15, .inl (cI, 6, .inl g_V_worn)), (a24, .inl (cI, 46, .inl g_cn_how))] → va_S A s.heap H locs → lv_has ls 6 [(0, .ref a0), (1, .int 5), (2, .long b2), (4, .int h13), (5, .int x17)] → W p l e ({ frames := 5, cells := 11 - g, slots := fs 11 - fs g, locals := 147 } : Room) s m args below meth c H locs (g18 - g) (fs g18 - fs g) Qm (F0 m 92 ls []) := by
            intro n
            induction n with
            | zero => intro x17 g18 ad19 f20 h21 f22 H locs ls hv hm; have p_ := i_lo x17; have q_ := i_hi x17; omega
            | succ n ih_92 =>
              intro x17 g18 ad19 f20 h21 f22 H locs ls hv hm hLK hP hD hS hl
              have p_ := i_lo x17; have q_ := i_hi x17
              refine lv_iload hx hb dX4_lay_92 (lv_at hl 4 rfl) ?_
              refine lv_iload hx hb dX4_lay_94 (lv_at hl 3 rfl) ?_
              refine lv_icmp_gt (tgt := 127) hx hb dX4_lay_96 (by decide) (fun c23 => ?_) (fun c23 => ?_)
              · have dc23 : h13.toInt < x17.toInt := (fa_lt _ _).mp c23; have lbc23_0 := i_lo h13; have ubc23_1 := i_hi x17
                refine W.know (fun hgr => ?_)
                rw [← hQm]
                exact k_vretG hC hr hlk hK hP hD hS (h12, h13, h21, f20, f22, g18, ad19) [0, 1, 2, 3, 4, 5, 6, 7, 8, 9, 10, 11, 12, 13, 14] rfl (by decide +kernel) ⟨(show 0 ≤ h12.toInt ∧ h13.toInt ≤ 2147483646 ∧ 0 ≤ h21.toInt ∧ h21.toInt ≤ 300000 ∧ g ≤ g18 ∧ g18 ≤ 11 ∧ h21.toInt ≤ ((fl g18 : Nat) : Int) from by omega), (show (h21 : Int32).toInt ≤ (v_fo_1 : Int32).toInt + KKf g_V_off (v_V_5 : Int32).toInt 1 from by first | omega | (have q_ := hLK.1; omega))⟩ hgr (gr_lc (by omega) (by omega)) (gr_ls (by omega) (by omega)) dX4_lay_127
              · have dc23 : x17.toInt ≤ h13.toInt := fa_nlt c23; have lbc23_0 := i_lo h13; have ubc23_1 := i_hi x17
                refine lv_aload_n hx hb dX4_lay_99 rfl (lv_at hl 0 rfl) ?_
                refine k_get hC hK hP iX4 0 4 wf_X4_38 rfl (by decide) rfl rfl dX4_lay_100 ?_
                refine lv_iload_n hx hb dX4_lay_103 rfl (lv_at hl 1 rfl) ?_
                refine lv_iload hx hb dX4_lay_104 (lv_at hl 4 rfl) ?_
                refine t_iastX hC hK hP hD hS 12 rfl (by decide) (by decide) (TA.all _) ⟨i_lo _, i_hi _⟩ dX4_lay_106 (fun f24 H locs up_106 hT_f24 hP hD hS => ?_)
                have hP : va_P G cl [(a0, .inr (4, [.ref a1, .ref a2, .ref a3, .ref a4, .ref a5, .ref a6, .ref a7, .int v_se_7, .int h12, .int h13, .int v_se_10])), (a2, .inr (0, [.ref ad19, .int h21, .int v_fo_2, .long w_fo_3, .int v_fo_4, .int v_fo_5, .long w_fo_6])), (a9, .inl (cI, 6, .inl g_V_off)), (a1, .inr (7, [.int v_V_0, .int v_V_1, .int v_V_2, .ref a10, .ref a11, .int v_V_5, .ref a12, .ref a13, .ref a14, .ref a9, .ref a15, .ref a16, .ref a17, .ref a18, .ref a19])), (a6, .inl (cI, 6, .inl g_se_least)), (a7, .inl (cI, 6, .inl g_se_most)), (ad19, .inl (cJ, (fl g18), .inr (.inl f20))), (a4, .inl (cI, 7, .inl g_se_firstOf)), (a3, .inr (8, [.ref a20, .ref a21, .ref a22, .ref a23, .ref a24, .ref a25, .ref a26, .int v_cn_7])), (a20, .inl (cI, 46, .inl g_cn_left)), (a21, .inl (cI, 46, .inl g_cn_right)), (a22, .inl (cI, 46, .inl g_cn_year)), (a5, .inl (cI, 6, .inl f24)), (a15, .inl (cI, 6, .inl g_V_worn)), (a24, .inl (cI, 46, .inl g_cn_how))] H := hP
                have hD : va_D A [(a0, .inr (4, [.ref a1, .ref a2, .ref a3, .ref a4, .ref a5, .ref a6, .ref a7, .int v_se_7, .int h12, .int h13, .int v_se_10])), (a2, .inr (0, [.ref ad19, .int h21, .int v_fo_2, .long w_fo_3, .int v_fo_4, .int v_fo_5, .long w_fo_6])), (a9, .inl (cI, 6, .inl g_V_off)), (a1, .inr (7, [.int v_V_0, .int v_V_1, .int v_V_2, .ref a10, .ref a11, .int v_V_5, .ref a12, .ref a13, .ref a14, .ref a9, .ref a15, .ref a16, .ref a17, .ref a18, .ref a19])), (a6, .inl (cI, 6, .inl g_se_least)), (a7, .inl (cI, 6, .inl g_se_most)), (ad19, .inl (cJ, (fl g18), .inr (.inl f20))), (a4, .inl (cI, 7, .inl g_se_firstOf)), (a3, .inr (8, [.ref a20, .ref a21, .ref a22, .ref a23, .ref a24, .ref a25, .ref a26, .int v_cn_7])), (a20, .inl (cI, 46, .inl g_cn_left)), (a21, .inl (cI, 46, .inl g_cn_right)), (a22, .inl (cI, 46, .inl g_cn_year)), (a5, .inl (cI, 6, .inl f24)), (a15, .inl (cI, 6, .inl g_V_worn)), (a24, .inl (cI, 46, .inl g_cn_how))] := hD
                refine lv_aload_n hx hb dX4_lay_107 rfl (lv_at hl 0 rfl) ?_
                refine lv_iload_n hx hb dX4_lay_108 rfl (lv_at hl 1 rfl) ?_
                refine lv_iconst (v := 1) hx hb dX4_lay_109 (by decide) ?_
                refine lv_iadd hx hb dX4_lay_110 ?_
                refine k_i 6 (by decide +kernel) ?_
                refine lv_lload_n hx hb dX4_lay_111 rfl (lv_at hl 2 rfl) ?_
                refine lv_iload_n hx hb dX4_lay_112 rfl (lv_at hl 1 rfl) ?_
                refine lv_iload hx hb dX4_lay_113 (lv_at hl 4 rfl) ?_
                have l_l27 : (5 : Int32).toInt = 5 := rfl
                refine k_cl (wr := [(a0, .inr (4, [.ref a1, .ref a2, .ref a3, .ref a4, .ref a5, .ref a6, .ref a7, .int v_se_7, .int h12, .int h13, .int v_se_10])), (a2, .inr (0, [.ref ad19, .int h21, .int v_fo_2, .long w_fo_3, .int v_fo_4, .int v_fo_5, .long w_fo_6])), (a9, .inl (cI, 6, .inl g_V_off)), (a1, .inr (7, [.int v_V_0, .int v_V_1, .int v_V_2, .ref a10, .ref a11, .int v_V_5, .ref a12, .ref a13, .ref a14, .ref a9, .ref a15, .ref a16, .ref a17, .ref a18, .ref a19])), (a6, .inl (cI, 6, .inl g_se_least)), (a7, .inl (cI, 6, .inl g_se_most)), (ad19, .inl (cJ, (fl g18), .inr (.inl f20))), (a4, .inl (cI, 7, .inl g_se_firstOf)), (a3, .inr (8, [.ref a20, .ref a21, .ref a22, .ref a23, .ref a24, .ref a25, .ref a26, .int v_cn_7])), (a20, .inl (cI, 46, .inl g_cn_left)), (a21, .inl (cI, 46, .inl g_cn_right)), (a22, .inl (cI, 46, .inl g_cn_year)), (a5, .inl (cI, 6, .inl f24)), (a15, .inl (cI, 6, .inl g_V_worn)), (a24, .inl (cI, 46, .inl g_cn_how))]) (k_rS hC hN hZ hS hA hK hP hD (c151_X0_withWeight l G cI cJ cB cZ b2 5 x17) [] rfl (by decide +kernel) mi_X0_withWeight st_X0_withWeight wm_X4_129 hl.1 rfl rfl (Nat.le_of_ble_eq_true rfl) ⟨(Nat.le_of_ble_eq_true rfl), (Nat.le_of_ble_eq_true rfl)⟩ dX4_lay_115 (gr_r0 (by omega) (by omega))) hP hD hS hA [] [0, 1, 2, 3, 4, 5, 6, 7, 8, 9, 10, 11, 12, 13, 14] rfl rfl (by decide +kernel) (by decide +kernel) (fun r26 u26 H locs hp hP hD hS => ?_)
                have hp : (True) := hp
                have hP : va_P G cl [(a0, .inr (4, [.ref a1, .ref a2, .ref a3, .ref a4, .ref a5, .ref a6, .ref a7, .int v_se_7, .int h12, .int h13, .int v_se_10])), (a2, .inr (0, [.ref ad19, .int h21, .int v_fo_2, .long w_fo_3, .int v_fo_4, .int v_fo_5, .long w_fo_6])), (a9, .inl (cI, 6, .inl g_V_off)), (a1, .inr (7, [.int v_V_0, .int v_V_1, .int v_V_2, .ref a10, .ref a11, .int v_V_5, .ref a12, .ref a13, .ref a14, .ref a9, .ref a15, .ref a16, .ref a17, .ref a18, .ref a19])), (a6, .inl (cI, 6, .inl g_se_least)), (a7, .inl (cI, 6, .inl g_se_most)), (ad19, .inl (cJ, (fl g18), .inr (.inl f20))), (a4, .inl (cI, 7, .inl g_se_firstOf)), (a3, .inr (8, [.ref a20, .ref a21, .ref a22, .ref a23, .ref a24, .ref a25, .ref a26, .int v_cn_7])), (a20, .inl (cI, 46, .inl g_cn_left)), (a21, .inl (cI, 46, .inl g_cn_right)), (a22, .inl (cI, 46, .inl g_cn_year)), (a5, .inl (cI, 6, .inl f24)), (a15, .inl (cI, 6, .inl g_V_worn)), (a24, .inl (cI, 46, .inl g_cn_how))] H := hP
                have hD : va_D A [(a0, .inr (4, [.ref a1, .ref a2, .ref a3, .ref a4, .ref a5, .ref a6, .ref a7, .int v_se_7, .int h12, .int h13, .int v_se_10])), (a2, .inr (0, [.ref ad19, .int h21, .int v_fo_2, .long w_fo_3, .int v_fo_4, .int v_fo_5, .long w_fo_6])), (a9, .inl (cI, 6, .inl g_V_off)), (a1, .inr (7, [.int v_V_0, .int v_V_1, .int v_V_2, .ref a10, .ref a11, .int v_V_5, .ref a12, .ref a13, .ref a14, .ref a9, .ref a15, .ref a16, .ref a17, .ref a18, .ref a19])), (a6, .inl (cI, 6, .inl g_se_least)), (a7, .inl (cI, 6, .inl g_se_most)), (ad19, .inl (cJ, (fl g18), .inr (.inl f20))), (a4, .inl (cI, 7, .inl g_se_firstOf)), (a3, .inr (8, [.ref a20, .ref a21, .ref a22, .ref a23, .ref a24, .ref a25, .ref a26, .int v_cn_7])), (a20, .inl (cI, 46, .inl g_cn_left)), (a21, .inl (cI, 46, .inl g_cn_right)), (a22, .inl (cI, 46, .inl g_cn_year)), (a5, .inl (cI, 6, .inl f24)), (a15, .inl (cI, 6, .inl g_V_worn)), (a24, .inl (cI, 46, .inl g_cn_how))] := hD
                have hq26 := hp
                have lu_ := LK.use hLK (by omega) (by omega)
                refine W.know (fun hgr => ?_)
                refine k_cvG (wr := [(a4, .inl (cI, 7, .inl g_se_firstOf)), (a3, .inr (8, [.ref a20, .ref a21, .ref a22, .ref a23, .ref a24, .ref a25, .ref a26, .int v_cn_7])), (a20, .inl (cI, 46, .inl g_cn_left)), (a21, .inl (cI, 46, .inl g_cn_right)), (a22, .inl (cI, 46, .inl g_cn_year)), (a5, .inl (cI, 6, .inl f24)), (a15, .inl (cI, 6, .inl g_V_worn)), (a24, .inl (cI, 46, .inl g_cn_how))]) (k_rVG hC hN hZ hS hA hK hP hD (c152_X4_lay l G cI cJ cB cZ a0 a1 a2 a3 a4 a5 a6 a7 ad19 a9 a10 a11 a12 a13 a14 a15 a16 a17 a18 a19 g18 r26 v_se_7 h12 h13 v_se_10 h21 v_fo_2 w_fo_3 v_fo_4 v_fo_5 w_fo_6 v_V_0 v_V_1 v_V_2 v_V_5 g_V_off g_se_least g_se_most f20 (by omega) (by omega) (by omega) (by omega) hv_4 hv_5 hv_6 hv_7 hv_8 hv_9 hv_10 hv_11 hv_12 hv_13 (by omega) (by omega) hT_g_V_off hT_g_se_least hT_g_se_most (by omega) (by assumption)) [0, 1, 2, 3, 4, 5, 6] rfl (by decide +kernel) mi_X4_lay in_X4_lay se_X4_lay wm_X4_105 4 0 rfl rfl rfl hl.1 rfl rfl (Nat.le_of_ble_eq_true rfl) ⟨(Nat.le_of_ble_eq_true rfl), (Nat.le_of_ble_eq_true rfl)⟩ dX4_lay_118 (gr_rG (by omega) (by omega))) hP hD hS hA [0, 1, 2, 3, 4, 5, 6] [7, 8, 9, 10, 11, 12, 13, 14] rfl rfl (by decide +kernel) (by decide +kernel) (fun u28 H locs hp hP hD hS hgn => ?_)
                obtain ⟨h29, f30, g31, ad32⟩ := u28
                obtain ⟨hp, hsz_118⟩ : (1 ≤ h29.toInt ∧ h29.toInt ≤ 300000 ∧ g18 ≤ g31 ∧ g31 ≤ 11 ∧ h29.toInt ≤ ((fl g31 : Nat) : Int)) ∧ ((h29 : Int32).toInt ≤ (h21 : Int32).toInt + KKf g_V_off (v_V_5 : Int32).toInt 0) := hp
                have hP : va_P G cl [(a4, .inl (cI, 7, .inl g_se_firstOf)), (a3, .inr (8, [.ref a20, .ref a21, .ref a22, .ref a23, .ref a24, .ref a25, .ref a26, .int v_cn_7])), (a20, .inl (cI, 46, .inl g_cn_left)), (a21, .inl (cI, 46, .inl g_cn_right)), (a22, .inl (cI, 46, .inl g_cn_year)), (a5, .inl (cI, 6, .inl f24)), (a15, .inl (cI, 6, .inl g_V_worn)), (a24, .inl (cI, 46, .inl g_cn_how)), (a0, .inr (4, [.ref a1, .ref a2, .ref a3, .ref a4, .ref a5, .ref a6, .ref a7, .int v_se_7, .int h12, .int h13, .int v_se_10])), (a2, .inr (0, [.ref ad32, .int h29, .int v_fo_2, .long w_fo_3, .int v_fo_4, .int v_fo_5, .long w_fo_6])), (a9, .inl (cI, 6, .inl g_V_off)), (a1, .inr (7, [.int v_V_0, .int v_V_1, .int v_V_2, .ref a10, .ref a11, .int v_V_5, .ref a12, .ref a13, .ref a14, .ref a9, .ref a15, .ref a16, .ref a17, .ref a18, .ref a19])), (a6, .inl (cI, 6, .inl g_se_least)), (a7, .inl (cI, 6, .inl g_se_most)), (ad32, .inl (cJ, (fl g31), .inr (.inl f30)))] H := hP
                have hD : va_D A [(a4, .inl (cI, 7, .inl g_se_firstOf)), (a3, .inr (8, [.ref a20, .ref a21, .ref a22, .ref a23, .ref a24, .ref a25, .ref a26, .int v_cn_7])), (a20, .inl (cI, 46, .inl g_cn_left)), (a21, .inl (cI, 46, .inl g_cn_right)), (a22, .inl (cI, 46, .inl g_cn_year)), (a5, .inl (cI, 6, .inl f24)), (a15, .inl (cI, 6, .inl g_V_worn)), (a24, .inl (cI, 46, .inl g_cn_how)), (a0, .inr (4, [.ref a1, .ref a2, .ref a3, .ref a4, .ref a5, .ref a6, .ref a7, .int v_se_7, .int h12, .int h13, .int v_se_10])), (a2, .inr (0, [.ref ad32, .int h29, .int v_fo_2, .long w_fo_3, .int v_fo_4, .int v_fo_5, .long w_fo_6])), (a9, .inl (cI, 6, .inl g_V_off)), (a1, .inr (7, [.int v_V_0, .int v_V_1, .int v_V_2, .ref a10, .ref a11, .int v_V_5, .ref a12, .ref a13, .ref a14, .ref a9, .ref a15, .ref a16, .ref a17, .ref a18, .ref a19])), (a6, .inl (cI, 6, .inl g_se_least)), (a7, .inl (cI, 6, .inl g_se_most)), (ad32, .inl (cJ, (fl g31), .inr (.inl f30)))] := hD
                have hq28 := hp
                refine W.tight (k := g31 - g) (n := fs g31 - fs g) (GR.tr3 hgr hgn (by omega) (by omega)) ?_
                obtain ⟨z33, ez33⟩ : ∃ q : Int32, q = x17 + Int32.ofInt 1 := ⟨_, rfl⟩
                have tz33 : z33.toInt = x17.toInt + 1 := by rw [ez33]; exact add_i (y := 1) (by have p_ := i_lo x17; show _ ≤ _ + (1 : Int); omega) (by have q_ := i_hi x17; show _ + (1 : Int) ≤ _; omega)
                refine lv_iinc (v := z33) (lv' := [(5, .int z33), (0, .ref a0), (1, .int 5), (2, .long b2), (4, .int h13)]) hx hb dX4_lay_121 hl (k := 4) rfl ez33.symm (by decide) rfl (fun ls hl => ?_)
                refine lv_goto (tgt := 92) hx hb dX4_lay_124 (by decide) ?_
                exact ih_92  z33 g31 ad32 f30 h29 f24 H locs ls (by omega) (by omega) (by exact LK.step hLK (by omega) hsz_118 (by omega) (by omega)) (hP.subm [8, 9, 10, 11, 12, 13, 14, 0, 1, 2, 3, 4, 5, 6, 7] rfl) (hD.sub [8, 9, 10, 11, 12, 13, 14, 0, 1, 2, 3, 4, 5, 6, 7] (by decide +kernel) rfl) hS (lv_sub hl [1, 2, 3, 4, 0] rfl)
          exact L_92 2147483648 h12 g a8 g_fo_rows v_fo_1 g_se_weight H locs ls (by omega) (by omega) (by exact LK.start (D := 2 * gI g_V_off 5 + 1) (by omega) (fun _ => by omega) (by omega) (by omega)) (hP.subm [0, 1, 2, 3, 4, 5, 6, 7, 8, 9, 10, 11, 12, 13, 14] rfl) (hD.sub [0, 1, 2, 3, 4, 5, 6, 7, 8, 9, 10, 11, 12, 13, 14] (by decide +kernel) rfl) hS (lv_sub hl [2, 3, 4, 1, 0] rfl)
        · have dc16 : x11.toInt < z15.toInt := fa_nle c16
          refine lv_aload_n hx hb dX4_lay_67 rfl (lv_at hl 0 rfl) ?_
          refine lv_iload hx hb dX4_lay_68 (lv_at hl 3 rfl) ?_
          refine lv_iload_n hx hb dX4_lay_70 rfl (lv_at hl 1 rfl) ?_
          have l_l35 : (5 : Int32).toInt = 5 := rfl
          refine k_cv (wr := [(a2, .inr (0, [.ref a8, .int v_fo_1, .int v_fo_2, .long w_fo_3, .int v_fo_4, .int v_fo_5, .long w_fo_6])), (a9, .inl (cI, 6, .inl g_V_off)), (a6, .inl (cI, 6, .inl g_se_least)), (a7, .inl (cI, 6, .inl g_se_most)), (a8, .inl (cJ, (fl g), .inr (.inl g_fo_rows))), (a4, .inl (cI, 7, .inl g_se_firstOf))]) (k_rV hC hN hZ hS hA hK hP hD (c150_X4_narrow l G cI cJ cB cZ a0 a1 a2 a3 a4 a5 a6 a7 a20 a21 a22 a23 a24 a25 a26 a10 a11 a12 a13 a14 a9 a15 a16 a17 a18 a19 x11 5 v_se_7 h12 h13 v_se_10 v_cn_7 v_V_0 v_V_1 v_V_2 v_V_5 g_cn_left g_cn_right g_cn_year g_se_weight g_V_worn g_cn_how (by omega) (by omega) (by omega) (by omega) (by omega) (by omega) hv_14 hv_15 hv_8 hv_9 hv_10 hv_11 hv_12 hv_13) [0, 8, 9, 10, 11, 3, 12, 13, 14] rfl (by decide +kernel) mi_X4_narrow in_X4_narrow se_X4_narrow wm_X4_126 4 0 rfl rfl rfl hl.1 rfl rfl (Nat.le_of_ble_eq_true rfl) ⟨(Nat.le_of_ble_eq_true rfl), (Nat.le_of_ble_eq_true rfl)⟩ dX4_lay_71 (gr_r0 (by omega) (by omega))) hP hD hS hA [0, 8, 9, 10, 11, 3, 12, 13, 14] [1, 2, 4, 5, 6, 7] rfl rfl (by decide +kernel) (by decide +kernel) (fun u34 H locs hp hP hD hS => ?_)
          obtain ⟨h36, h37⟩ := u34
          obtain ⟨hp, hnr_71⟩ : (0 ≤ h36.toInt ∧ h37.toInt ≤ 2147483646) ∧ (NR (h12 : Int32).toInt (h13 : Int32).toInt (h36 : Int32).toInt (h37 : Int32).toInt) := hp
          have hP : va_P G cl [(a2, .inr (0, [.ref a8, .int v_fo_1, .int v_fo_2, .long w_fo_3, .int v_fo_4, .int v_fo_5, .long w_fo_6])), (a9, .inl (cI, 6, .inl g_V_off)), (a6, .inl (cI, 6, .inl g_se_least)), (a7, .inl (cI, 6, .inl g_se_most)), (a8, .inl (cJ, (fl g), .inr (.inl g_fo_rows))), (a4, .inl (cI, 7, .inl g_se_firstOf)), (a0, .inr (4, [.ref a1, .ref a2, .ref a3, .ref a4, .ref a5, .ref a6, .ref a7, .int v_se_7, .int h36, .int h37, .int v_se_10])), (a3, .inr (8, [.ref a20, .ref a21, .ref a22, .ref a23, .ref a24, .ref a25, .ref a26, .int v_cn_7])), (a20, .inl (cI, 46, .inl g_cn_left)), (a21, .inl (cI, 46, .inl g_cn_right)), (a22, .inl (cI, 46, .inl g_cn_year)), (a1, .inr (7, [.int v_V_0, .int v_V_1, .int v_V_2, .ref a10, .ref a11, .int v_V_5, .ref a12, .ref a13, .ref a14, .ref a9, .ref a15, .ref a16, .ref a17, .ref a18, .ref a19])), (a5, .inl (cI, 6, .inl g_se_weight)), (a15, .inl (cI, 6, .inl g_V_worn)), (a24, .inl (cI, 46, .inl g_cn_how))] H := hP
          have hD : va_D A [(a2, .inr (0, [.ref a8, .int v_fo_1, .int v_fo_2, .long w_fo_3, .int v_fo_4, .int v_fo_5, .long w_fo_6])), (a9, .inl (cI, 6, .inl g_V_off)), (a6, .inl (cI, 6, .inl g_se_least)), (a7, .inl (cI, 6, .inl g_se_most)), (a8, .inl (cJ, (fl g), .inr (.inl g_fo_rows))), (a4, .inl (cI, 7, .inl g_se_firstOf)), (a0, .inr (4, [.ref a1, .ref a2, .ref a3, .ref a4, .ref a5, .ref a6, .ref a7, .int v_se_7, .int h36, .int h37, .int v_se_10])), (a3, .inr (8, [.ref a20, .ref a21, .ref a22, .ref a23, .ref a24, .ref a25, .ref a26, .int v_cn_7])), (a20, .inl (cI, 46, .inl g_cn_left)), (a21, .inl (cI, 46, .inl g_cn_right)), (a22, .inl (cI, 46, .inl g_cn_year)), (a1, .inr (7, [.int v_V_0, .int v_V_1, .int v_V_2, .ref a10, .ref a11, .int v_V_5, .ref a12, .ref a13, .ref a14, .ref a9, .ref a15, .ref a16, .ref a17, .ref a18, .ref a19])), (a5, .inl (cI, 6, .inl g_se_weight)), (a15, .inl (cI, 6, .inl g_V_worn)), (a24, .inl (cI, 46, .inl g_cn_how))] := hD
          have hq34 := hp
          obtain ⟨z38, ez38⟩ : ∃ q : Int32, q = x11 + Int32.ofInt 1 := ⟨_, rfl⟩
          have tz38 : z38.toInt = x11.toInt + 1 := by rw [ez38]; exact add_i (y := 1) (by have p_ := i_lo x11; show _ ≤ _ + (1 : Int); omega) (by have q_ := i_hi x11; show _ + (1 : Int) ≤ _; omega)
          refine lv_iinc (v := z38) (lv' := [(4, .int z38), (0, .ref a0), (1, .int 5), (2, .long b2)]) hx hb dX4_lay_74 hl (k := 3) rfl ez38.symm (by decide) rfl (fun ls hl => ?_)
          refine lv_goto (tgt := 54) hx hb dX4_lay_77 (by decide) ?_
          exact ih  z38 h36 h37 H locs ls (by omega) (by omega) (by exact NR.tr hNR hnr_71) (hP.subm [6, 0, 1, 11, 2, 3, 4, 5, 7, 8, 9, 10, 12, 13, 14] rfl) (hD.sub [6, 0, 1, 11, 2, 3, 4, 5, 7, 8, 9, 10, 12, 13, 14] (by decide +kernel) rfl) hS (lv_sub hl [1, 2, 3, 0] rfl)
    exact L_54 47 z10 z8 z9 H locs ls (by omega) (by omega) (by rw [← ex_32 5 rfl, ← ex_42 5 rfl]; exact NR.rf) (hP.subm [0, 1, 2, 3, 4, 5, 6, 7, 8, 9, 10, 11, 12, 13, 14] rfl) (hD.sub [0, 1, 2, 3, 4, 5, 6, 7, 8, 9, 10, 11, 12, 13, 14] (by decide +kernel) rfl) hS (lv_sub hl [1, 2, 3, 0] rfl)
set_option maxHeartbeats 4000000 in
set_option maxRecDepth 100000 in
theorem c154_X4_lay (l : Launch) (G : va_G) (cI cJ cB cZ : ClassId) (a0 a1 a2 a3 a4 a5 a6 a7 a8 a9 a10 a11 a12 a13 a14 a15 a16 a17 a18 a19 a20 a21 a22 a23 a24 a25 a26 : Nat) (g : Nat) (b2 : Int64) (v_se_7 : Int32) (v_se_8 : Int32) (v_se_9 : Int32) (v_se_10 : Int32) (v_fo_1 : Int32) (v_fo_2 : Int32) (w_fo_3 : Int64) (v_fo_4 : Int32) (v_fo_5 : Int32) (w_fo_6 : Int64) (v_V_0 : Int32) (v_V_1 : Int32) (v_V_2 : Int32) (v_V_5 : Int32) (v_cn_7 : Int32) (g_V_off : Nat → Int32) (g_se_least : Nat → Int32) (g_se_most : Nat → Int32) (g_fo_rows : Nat → Int64) (g_se_firstOf : Nat → Int32) (g_cn_left : Nat → Int32) (g_cn_right : Nat → Int32) (g_cn_year : Nat → Int32) (g_se_weight : Nat → Int32) (g_V_worn : Nat → Int32) (g_cn_how : Nat → Int32) (hv_0 : 0 ≤ v_se_8.toInt) (hv_1 : v_se_9.toInt ≤ 2147483646) (hv_2 : 0 ≤ v_fo_1.toInt) (hv_3 : v_fo_1.toInt ≤ 300000) (hv_4 : 0 ≤ v_fo_2.toInt) (hv_5 : v_fo_2.toInt ≤ 1) (hv_6 : 0 ≤ v_fo_5.toInt) (hv_7 : v_fo_5.toInt ≤ 1) (hv_8 : 0 ≤ v_V_0.toInt) (hv_9 : v_V_0.toInt ≤ 110) (hv_10 : 0 ≤ v_V_1.toInt) (hv_11 : v_V_1.toInt ≤ 110) (hv_12 : 0 ≤ v_V_5.toInt) (hv_13 : v_V_5.toInt ≤ 6) (hv_14 : 0 ≤ v_cn_7.toInt) (hv_15 : v_cn_7.toInt ≤ 46) (hv_16 : g ≤ 11) (hv_17 : (v_fo_1.toInt ≤ ((fl g : Nat) : Int))) (hT_g_V_off : TA 0 4 g_V_off) (hT_g_se_least : TA 0 2147483647 g_se_least) (hT_g_se_most : TA (-2147483648) 2147483646 g_se_most) (hT_g_se_firstOf : TA 0 46 g_se_firstOf) (hSz : (v_fo_1 : Int32).toInt + KKf g_V_off (v_V_5 : Int32).toInt 2 ≤ 300000) (hSP : SPn g_V_off g_se_least g_se_most (v_V_5 : Int32).toInt) : ConG l G (TY cI cJ cB cZ) yX4_lay cX4_lay 6 none ({ frames := 6, cells := 11 - g, slots := fs 11 - fs g, locals := 172 } : Room) [.ref a0, .int 4, .long b2] [(a0, .inr (4, [.ref a1, .ref a2, .ref a3, .ref a4, .ref a5, .ref a6, .ref a7, .int v_se_7, .int v_se_8, .int v_se_9, .int v_se_10])), (a2, .inr (0, [.ref a8, .int v_fo_1, .int v_fo_2, .long w_fo_3, .int v_fo_4, .int v_fo_5, .long w_fo_6])), (a9, .inl (cI, 6, .inl g_V_off)), (a1, .inr (7, [.int v_V_0, .int v_V_1, .int v_V_2, .ref a10, .ref a11, .int v_V_5, .ref a12, .ref a13, .ref a14, .ref a9, .ref a15, .ref a16, .ref a17, .ref a18, .ref a19])), (a6, .inl (cI, 6, .inl g_se_least)), (a7, .inl (cI, 6, .inl g_se_most)), (a8, .inl (cJ, (fl g), .inr (.inl g_fo_rows))), (a4, .inl (cI, 7, .inl g_se_firstOf)), (a3, .inr (8, [.ref a20, .ref a21, .ref a22, .ref a23, .ref a24, .ref a25, .ref a26, .int v_cn_7])), (a20, .inl (cI, 46, .inl g_cn_left)), (a21, .inl (cI, 46, .inl g_cn_right)), (a22, .inl (cI, 46, .inl g_cn_year)), (a5, .inl (cI, 6, .inl g_se_weight)), (a15, .inl (cI, 6, .inl g_V_worn)), (a24, .inl (cI, 46, .inl g_cn_how))] (QVG G (TY cI cJ cB cZ) g (fun u : Int32 × Int32 × Int32 × (Nat → Int64) × (Nat → Int32) × Nat × Nat => u.2.2.2.2.2.1) (fun u : Int32 × Int32 × Int32 × (Nat → Int64) × (Nat → Int32) × Nat × Nat => (0 ≤ u.1.toInt ∧ u.2.1.toInt ≤ 2147483646 ∧ 0 ≤ u.2.2.1.toInt ∧ u.2.2.1.toInt ≤ 300000 ∧ g ≤ u.2.2.2.2.2.1 ∧ u.2.2.2.2.2.1 ≤ 11 ∧ u.2.2.1.toInt ≤ ((fl u.2.2.2.2.2.1 : Nat) : Int)) ∧ ((u.2.2.1 : Int32).toInt ≤ (v_fo_1 : Int32).toInt + KKf g_V_off (v_V_5 : Int32).toInt 2)) (fun u : Int32 × Int32 × Int32 × (Nat → Int64) × (Nat → Int32) × Nat × Nat => [(a0, .inr (4, [.ref a1, .ref a2, .ref a3, .ref a4, .ref a5, .ref a6, .ref a7, .int v_se_7, .int u.1, .int u.2.1, .int v_se_10])), (a2, .inr (0, [.ref u.2.2.2.2.2.2, .int u.2.2.1, .int v_fo_2, .long w_fo_3, .int v_fo_4, .int v_fo_5, .long w_fo_6])), (a9, .inl (cI, 6, .inl g_V_off)), (a1, .inr (7, [.int v_V_0, .int v_V_1, .int v_V_2, .ref a10, .ref a11, .int v_V_5, .ref a12, .ref a13, .ref a14, .ref a9, .ref a15, .ref a16, .ref a17, .ref a18, .ref a19])), (a6, .inl (cI, 6, .inl g_se_least)), (a7, .inl (cI, 6, .inl g_se_most)), (u.2.2.2.2.2.2, .inl (cJ, (fl u.2.2.2.2.2.1), .inr (.inl u.2.2.2.1))), (a4, .inl (cI, 7, .inl g_se_firstOf)), (a3, .inr (8, [.ref a20, .ref a21, .ref a22, .ref a23, .ref a24, .ref a25, .ref a26, .int v_cn_7])), (a20, .inl (cI, 46, .inl g_cn_left)), (a21, .inl (cI, 46, .inl g_cn_right)), (a22, .inl (cI, 46, .inl g_cn_year)), (a5, .inl (cI, 6, .inl u.2.2.2.2.1)), (a15, .inl (cI, 6, .inl g_V_worn)), (a24, .inl (cI, 46, .inl g_cn_how))])) := by
  refine k_metG (by decide) (Nat.le_of_ble_eq_true rfl) ?_
  intro p e s m below meth c A ls hC hr hlk hnm hN hZ hK hA hP hD hS hl
  have hl : lv_has ls 6 [(0, .ref a0), (1, .int 4), (2, .long b2)] := hl
  generalize hQm : MQ below _ _ s _ _ A = Qm
  generalize (List.toArray _ : Array Value) = args at hC hQm ⊢
  obtain ⟨hx, hb, hml, hown, hts⟩ := id hC
  obtain ⟨H, hH⟩ : ∃ q, q = s.heap := ⟨_, rfl⟩
  obtain ⟨locs, hlo⟩ : ∃ q : List Loc, q = [] := ⟨_, rfl⟩
  have hP : va_P G cl [(a0, .inr (4, [.ref a1, .ref a2, .ref a3, .ref a4, .ref a5, .ref a6, .ref a7, .int v_se_7, .int v_se_8, .int v_se_9, .int v_se_10])), (a2, .inr (0, [.ref a8, .int v_fo_1, .int v_fo_2, .long w_fo_3, .int v_fo_4, .int v_fo_5, .long w_fo_6])), (a9, .inl (cI, 6, .inl g_V_off)), (a1, .inr (7, [.int v_V_0, .int v_V_1, .int v_V_2, .ref a10, .ref a11, .int v_V_5, .ref a12, .ref a13, .ref a14, .ref a9, .ref a15, .ref a16, .ref a17, .ref a18, .ref a19])), (a6, .inl (cI, 6, .inl g_se_least)), (a7, .inl (cI, 6, .inl g_se_most)), (a8, .inl (cJ, (fl g), .inr (.inl g_fo_rows))), (a4, .inl (cI, 7, .inl g_se_firstOf)), (a3, .inr (8, [.ref a20, .ref a21, .ref a22, .ref a23, .ref a24, .ref a25, .ref a26, .int v_cn_7])), (a20, .inl (cI, 46, .inl g_cn_left)), (a21, .inl (cI, 46, .inl g_cn_right)), (a22, .inl (cI, 46, .inl g_cn_year)), (a5, .inl (cI, 6, .inl g_se_weight)), (a15, .inl (cI, 6, .inl g_V_worn)), (a24, .inl (cI, 46, .inl g_cn_how))] H := by rw [hH]; exact hP
  have hS : va_S A s.heap H locs := by rw [hH, hlo]; exact hS
  rw [← hlo]
  rw [← hH]
  refine W.tight (k := g - g) (n := fs g - fs g) (by rw [hH]; exact GR.rf) ?_
  have kp_ := KKf_pos hT_g_V_off (v_V_5 : Int32).toInt 2
  refine lv_iload_n hx hb dX4_lay_0 rfl (lv_at hl 1 rfl) ?_
  refine lv_aload_n hx hb dX4_lay_1 rfl (lv_at hl 0 rfl) ?_
  refine k_get hC hK hP iX4 0 0 wf_X4_12 rfl (by decide) rfl rfl dX4_lay_2 ?_
  refine k_getN hC hN hK hP iX7 3 5 wf_X4_109 rfl (by decide) rfl rfl dX4_lay_5 ?_
  refine lv_icmp_ge (tgt := 17) hx hb dX4_lay_8 (by decide) (fun c1 => ?_) (fun c1 => ?_)
  · have dc1 : v_V_5.toInt ≤ 4 := (fa_le _ _).mp c1
    have as2 : 0 ≤ v_fo_1.toInt ∧ v_fo_1.toInt ≤ 299999 := by omega
    refine lv_aload_n hx hb dX4_lay_17 rfl (lv_at hl 0 rfl) ?_
    refine k_get hC hK hP iX4 0 1 wf_X4_21 rfl (by decide) rfl rfl dX4_lay_18 ?_
    refine lv_lload_n hx hb dX4_lay_21 rfl (lv_at hl 2 rfl) ?_
    refine W.know (fun hgr => ?_)
    refine k_cvG (wr := [(a0, .inr (4, [.ref a1, .ref a2, .ref a3, .ref a4, .ref a5, .ref a6, .ref a7, .int v_se_7, .int v_se_8, .int v_se_9, .int v_se_10])), (a9, .inl (cI, 6, .inl g_V_off)), (a1, .inr (7, [.int v_V_0, .int v_V_1, .int v_V_2, .ref a10, .ref a11, .int v_V_5, .ref a12, .ref a13, .ref a14, .ref a9, .ref a15, .ref a16, .ref a17, .ref a18, .ref a19])), (a6, .inl (cI, 6, .inl g_se_least)), (a7, .inl (cI, 6, .inl g_se_most)), (a4, .inl (cI, 7, .inl g_se_firstOf)), (a3, .inr (8, [.ref a20, .ref a21, .ref a22, .ref a23, .ref a24, .ref a25, .ref a26, .int v_cn_7])), (a20, .inl (cI, 46, .inl g_cn_left)), (a21, .inl (cI, 46, .inl g_cn_right)), (a22, .inl (cI, 46, .inl g_cn_year)), (a5, .inl (cI, 6, .inl g_se_weight)), (a15, .inl (cI, 6, .inl g_V_worn)), (a24, .inl (cI, 46, .inl g_cn_how))]) (k_rVG hC hN hZ hS hA hK hP hD (c149_X0_put l G cI cJ cB cZ a2 a8 g b2 v_fo_1 v_fo_2 w_fo_3 v_fo_4 v_fo_5 w_fo_6 g_fo_rows hv_2 (by omega) hv_4 hv_5 hv_6 hv_7 hv_16 hv_17) [1, 6] rfl (by decide +kernel) mi_X0_put in_X0_put se_X0_put wm_X4_122 0 1 rfl rfl rfl hl.1 rfl rfl (Nat.le_of_ble_eq_true rfl) ⟨(Nat.le_of_ble_eq_true rfl), (Nat.le_of_ble_eq_true rfl)⟩ dX4_lay_22 (gr_rG (by omega) (by omega))) hP hD hS hA [1, 6] [0, 2, 3, 4, 5, 7, 8, 9, 10, 11, 12, 13, 14] rfl rfl (by decide +kernel) (by decide +kernel) (fun u3 H locs hp hP hD hS hgn => ?_)
    obtain ⟨h4, f5, g6, ad7⟩ := u3
    have hp : (1 ≤ h4.toInt ∧ h4.toInt ≤ 300000 ∧ (h4.toInt = v_fo_1.toInt + 1) ∧ g ≤ g6 ∧ g6 ≤ 11 ∧ h4.toInt ≤ ((fl g6 : Nat) : Int)) := hp
    have hP : va_P G cl [(a0, .inr (4, [.ref a1, .ref a2, .ref a3, .ref a4, .ref a5, .ref a6, .ref a7, .int v_se_7, .int v_se_8, .int v_se_9, .int v_se_10])), (a9, .inl (cI, 6, .inl g_V_off)), (a1, .inr (7, [.int v_V_0, .int v_V_1, .int v_V_2, .ref a10, .ref a11, .int v_V_5, .ref a12, .ref a13, .ref a14, .ref a9, .ref a15, .ref a16, .ref a17, .ref a18, .ref a19])), (a6, .inl (cI, 6, .inl g_se_least)), (a7, .inl (cI, 6, .inl g_se_most)), (a4, .inl (cI, 7, .inl g_se_firstOf)), (a3, .inr (8, [.ref a20, .ref a21, .ref a22, .ref a23, .ref a24, .ref a25, .ref a26, .int v_cn_7])), (a20, .inl (cI, 46, .inl g_cn_left)), (a21, .inl (cI, 46, .inl g_cn_right)), (a22, .inl (cI, 46, .inl g_cn_year)), (a5, .inl (cI, 6, .inl g_se_weight)), (a15, .inl (cI, 6, .inl g_V_worn)), (a24, .inl (cI, 46, .inl g_cn_how)), (a2, .inr (0, [.ref ad7, .int h4, .int v_fo_2, .long w_fo_3, .int v_fo_4, .int v_fo_5, .long w_fo_6])), (ad7, .inl (cJ, (fl g6), .inr (.inl f5)))] H := hP
    have hD : va_D A [(a0, .inr (4, [.ref a1, .ref a2, .ref a3, .ref a4, .ref a5, .ref a6, .ref a7, .int v_se_7, .int v_se_8, .int v_se_9, .int v_se_10])), (a9, .inl (cI, 6, .inl g_V_off)), (a1, .inr (7, [.int v_V_0, .int v_V_1, .int v_V_2, .ref a10, .ref a11, .int v_V_5, .ref a12, .ref a13, .ref a14, .ref a9, .ref a15, .ref a16, .ref a17, .ref a18, .ref a19])), (a6, .inl (cI, 6, .inl g_se_least)), (a7, .inl (cI, 6, .inl g_se_most)), (a4, .inl (cI, 7, .inl g_se_firstOf)), (a3, .inr (8, [.ref a20, .ref a21, .ref a22, .ref a23, .ref a24, .ref a25, .ref a26, .int v_cn_7])), (a20, .inl (cI, 46, .inl g_cn_left)), (a21, .inl (cI, 46, .inl g_cn_right)), (a22, .inl (cI, 46, .inl g_cn_year)), (a5, .inl (cI, 6, .inl g_se_weight)), (a15, .inl (cI, 6, .inl g_V_worn)), (a24, .inl (cI, 46, .inl g_cn_how)), (a2, .inr (0, [.ref ad7, .int h4, .int v_fo_2, .long w_fo_3, .int v_fo_4, .int v_fo_5, .long w_fo_6])), (ad7, .inl (cJ, (fl g6), .inr (.inl f5)))] := hD
    have hq3 := hp
    refine W.tight (k := g6 - g) (n := fs g6 - fs g) (GR.tr3 hgr hgn (by omega) (by omega)) ?_
    refine W.know (fun hgr => ?_)
    rw [← hQm]
    exact k_vretG hC hr hlk hK hP hD hS (v_se_8, v_se_9, h4, f5, g_se_weight, g6, ad7) [0, 13, 1, 2, 3, 4, 14, 5, 6, 7, 8, 9, 10, 11, 12] rfl (by decide +kernel) ⟨(show 0 ≤ v_se_8.toInt ∧ v_se_9.toInt ≤ 2147483646 ∧ 0 ≤ h4.toInt ∧ h4.toInt ≤ 300000 ∧ g ≤ g6 ∧ g6 ≤ 11 ∧ h4.toInt ≤ ((fl g6 : Nat) : Int) from by omega), (show (h4 : Int32).toInt ≤ (v_fo_1 : Int32).toInt + KKf g_V_off (v_V_5 : Int32).toInt 2 from by first | omega | (have q_ := hLK.1; omega))⟩ hgr (gr_lc (by omega) (by omega)) (gr_ls (by omega) (by omega)) dX4_lay_25
  · have dc1 : 4 < v_V_5.toInt := fa_nle c1
    refine lv_iload_n hx hb dX4_lay_11 rfl (lv_at hl 1 rfl) ?_
    refine lv_bipush (v := 6) hx hb dX4_lay_12 (by decide) ?_
    refine lv_icmp_lt (tgt := 26) hx hb dX4_lay_14 (by decide) (fun _ => ?_) (fun c_ => absurd (by decide +kernel) c_)
    have kin_ : KKf g_V_off (v_V_5 : Int32).toInt 2 = (2 * gI g_V_off 4 + 1) * KKf g_V_off (v_V_5 : Int32).toInt 1 := KKf_in 1 (by decide) (by omega)
    have kp2_ := KKf_pos hT_g_V_off (v_V_5 : Int32).toInt 1
    have sp_ := hSP 4 (by decide) (by omega)
    refine lv_aload_n hx hb dX4_lay_26 rfl (lv_at hl 0 rfl) ?_
    refine lv_aload_n hx hb dX4_lay_27 rfl (lv_at hl 0 rfl) ?_
    refine k_get hC hK hP iX4 0 5 wf_X4_41 rfl (by decide) rfl rfl dX4_lay_28 ?_
    refine lv_iload_n hx hb dX4_lay_31 rfl (lv_at hl 1 rfl) ?_
    refine t_ialdX hC hK hP 4 rfl (by decide) (by decide) hT_g_se_least dX4_lay_32 (fun z8 tz8 ex_32 => ?_)
    refine k_put hC hK hP hD hS iX4 tyX4_ok nmX4 0 8 wf_X4_51 rfl (by decide) rfl rfl rfl rfl (Nat.le_of_ble_eq_true rfl) dX4_lay_33 (fun H locs hP hD hS => ?_)
    have hP : va_P G cl [(a0, .inr (4, [.ref a1, .ref a2, .ref a3, .ref a4, .ref a5, .ref a6, .ref a7, .int v_se_7, .int z8, .int v_se_9, .int v_se_10])), (a2, .inr (0, [.ref a8, .int v_fo_1, .int v_fo_2, .long w_fo_3, .int v_fo_4, .int v_fo_5, .long w_fo_6])), (a9, .inl (cI, 6, .inl g_V_off)), (a1, .inr (7, [.int v_V_0, .int v_V_1, .int v_V_2, .ref a10, .ref a11, .int v_V_5, .ref a12, .ref a13, .ref a14, .ref a9, .ref a15, .ref a16, .ref a17, .ref a18, .ref a19])), (a6, .inl (cI, 6, .inl g_se_least)), (a7, .inl (cI, 6, .inl g_se_most)), (a8, .inl (cJ, (fl g), .inr (.inl g_fo_rows))), (a4, .inl (cI, 7, .inl g_se_firstOf)), (a3, .inr (8, [.ref a20, .ref a21, .ref a22, .ref a23, .ref a24, .ref a25, .ref a26, .int v_cn_7])), (a20, .inl (cI, 46, .inl g_cn_left)), (a21, .inl (cI, 46, .inl g_cn_right)), (a22, .inl (cI, 46, .inl g_cn_year)), (a5, .inl (cI, 6, .inl g_se_weight)), (a15, .inl (cI, 6, .inl g_V_worn)), (a24, .inl (cI, 46, .inl g_cn_how))] H := hP
    have hD : va_D A [(a0, .inr (4, [.ref a1, .ref a2, .ref a3, .ref a4, .ref a5, .ref a6, .ref a7, .int v_se_7, .int z8, .int v_se_9, .int v_se_10])), (a2, .inr (0, [.ref a8, .int v_fo_1, .int v_fo_2, .long w_fo_3, .int v_fo_4, .int v_fo_5, .long w_fo_6])), (a9, .inl (cI, 6, .inl g_V_off)), (a1, .inr (7, [.int v_V_0, .int v_V_1, .int v_V_2, .ref a10, .ref a11, .int v_V_5, .ref a12, .ref a13, .ref a14, .ref a9, .ref a15, .ref a16, .ref a17, .ref a18, .ref a19])), (a6, .inl (cI, 6, .inl g_se_least)), (a7, .inl (cI, 6, .inl g_se_most)), (a8, .inl (cJ, (fl g), .inr (.inl g_fo_rows))), (a4, .inl (cI, 7, .inl g_se_firstOf)), (a3, .inr (8, [.ref a20, .ref a21, .ref a22, .ref a23, .ref a24, .ref a25, .ref a26, .int v_cn_7])), (a20, .inl (cI, 46, .inl g_cn_left)), (a21, .inl (cI, 46, .inl g_cn_right)), (a22, .inl (cI, 46, .inl g_cn_year)), (a5, .inl (cI, 6, .inl g_se_weight)), (a15, .inl (cI, 6, .inl g_V_worn)), (a24, .inl (cI, 46, .inl g_cn_how))] := hD
    refine lv_aload_n hx hb dX4_lay_36 rfl (lv_at hl 0 rfl) ?_
    refine lv_aload_n hx hb dX4_lay_37 rfl (lv_at hl 0 rfl) ?_
    refine k_get hC hK hP iX4 0 6 wf_X4_44 rfl (by decide) rfl rfl dX4_lay_38 ?_
    refine lv_iload_n hx hb dX4_lay_41 rfl (lv_at hl 1 rfl) ?_
    refine t_ialdX hC hK hP 5 rfl (by decide) (by decide) hT_g_se_most dX4_lay_42 (fun z9 tz9 ex_42 => ?_)
    refine k_put hC hK hP hD hS iX4 tyX4_ok nmX4 0 9 wf_X4_54 rfl (by decide) rfl rfl rfl rfl (Nat.le_of_ble_eq_true rfl) dX4_lay_43 (fun H locs hP hD hS => ?_)
    have hP : va_P G cl [(a0, .inr (4, [.ref a1, .ref a2, .ref a3, .ref a4, .ref a5, .ref a6, .ref a7, .int v_se_7, .int z8, .int z9, .int v_se_10])), (a2, .inr (0, [.ref a8, .int v_fo_1, .int v_fo_2, .long w_fo_3, .int v_fo_4, .int v_fo_5, .long w_fo_6])), (a9, .inl (cI, 6, .inl g_V_off)), (a1, .inr (7, [.int v_V_0, .int v_V_1, .int v_V_2, .ref a10, .ref a11, .int v_V_5, .ref a12, .ref a13, .ref a14, .ref a9, .ref a15, .ref a16, .ref a17, .ref a18, .ref a19])), (a6, .inl (cI, 6, .inl g_se_least)), (a7, .inl (cI, 6, .inl g_se_most)), (a8, .inl (cJ, (fl g), .inr (.inl g_fo_rows))), (a4, .inl (cI, 7, .inl g_se_firstOf)), (a3, .inr (8, [.ref a20, .ref a21, .ref a22, .ref a23, .ref a24, .ref a25, .ref a26, .int v_cn_7])), (a20, .inl (cI, 46, .inl g_cn_left)), (a21, .inl (cI, 46, .inl g_cn_right)), (a22, .inl (cI, 46, .inl g_cn_year)), (a5, .inl (cI, 6, .inl g_se_weight)), (a15, .inl (cI, 6, .inl g_V_worn)), (a24, .inl (cI, 46, .inl g_cn_how))] H := hP
    have hD : va_D A [(a0, .inr (4, [.ref a1, .ref a2, .ref a3, .ref a4, .ref a5, .ref a6, .ref a7, .int v_se_7, .int z8, .int z9, .int v_se_10])), (a2, .inr (0, [.ref a8, .int v_fo_1, .int v_fo_2, .long w_fo_3, .int v_fo_4, .int v_fo_5, .long w_fo_6])), (a9, .inl (cI, 6, .inl g_V_off)), (a1, .inr (7, [.int v_V_0, .int v_V_1, .int v_V_2, .ref a10, .ref a11, .int v_V_5, .ref a12, .ref a13, .ref a14, .ref a9, .ref a15, .ref a16, .ref a17, .ref a18, .ref a19])), (a6, .inl (cI, 6, .inl g_se_least)), (a7, .inl (cI, 6, .inl g_se_most)), (a8, .inl (cJ, (fl g), .inr (.inl g_fo_rows))), (a4, .inl (cI, 7, .inl g_se_firstOf)), (a3, .inr (8, [.ref a20, .ref a21, .ref a22, .ref a23, .ref a24, .ref a25, .ref a26, .int v_cn_7])), (a20, .inl (cI, 46, .inl g_cn_left)), (a21, .inl (cI, 46, .inl g_cn_right)), (a22, .inl (cI, 46, .inl g_cn_year)), (a5, .inl (cI, 6, .inl g_se_weight)), (a15, .inl (cI, 6, .inl g_V_worn)), (a24, .inl (cI, 46, .inl g_cn_how))] := hD
    refine lv_aload_n hx hb dX4_lay_46 rfl (lv_at hl 0 rfl) ?_
    refine k_get hC hK hP iX4 0 3 wf_X4_34 rfl (by decide) rfl rfl dX4_lay_47 ?_
    refine lv_iload_n hx hb dX4_lay_50 rfl (lv_at hl 1 rfl) ?_
    refine t_ialdX hC hK hP 7 rfl (by decide) (by decide) hT_g_se_firstOf dX4_lay_51 (fun z10 tz10 ex_51 => ?_)
    refine lv_istore (lv' := [(4, .int z10), (0, .ref a0), (1, .int 4), (2, .long b2)]) hx hb dX4_lay_52 hl (by decide) rfl (fun ls hl => ?_)
    have L_54 : ∀ (n : Nat) (x11 : Int32) (h12 : Int32) (h13 : Int32) (H : Heap) (locs : List Loc) (ls : Array Slot), (0 ≤ x11.toInt ∧ x11.toInt ≤ 46 ∧ 0 ≤ h12.toInt ∧ h13.toInt ≤ 2147483646) → 46 - x11.toInt < (n : Int) → (NR (gI g_se_least 4) (gI g_se_most 4) (h12 : Int32).toInt (h13 : Int32).toInt) → va_P G cl [(a0, .inr (4, [.ref a1, .ref a2, .ref a3, .ref a4, .ref a5, .ref a6, .ref a7, .int v_se_7, .int h12, .int h13, .int v_se_10])), (a2, .inr (0, [.ref a8, .int v_fo_1, .int v_fo_2, .long w_fo_3, .int v_fo_4, .int v_fo_5, .long w_fo_6])), (a9, .inl (cI, 6, .inl g_V_off)), (a1, .inr (7, [.int v_V_0, .int v_V_1, .int v_V_2, .ref a10, .ref a11, .int v_V_5, .ref a12, .ref a13, .ref a14, .ref a9, .ref a15, .ref a16, .ref a17, .ref a18, .ref a19])), (a6, .inl (cI, 6, .inl g_se_least)), (a7, .inl (cI, 6, .inl g_se_most)), (a8, .inl (cJ, (fl g), .inr (.inl g_fo_rows))), (a4, .inl (cI, 7, .inl g_se_firstOf)), (a3, .inr (8, [.ref a20, .ref a21, .ref a22, .ref a23, .ref a24, .ref a25, .ref a26, .int v_cn_7])), (a20, .inl (cI, 46, .inl g_cn_left)), (a21, .inl (cI, 46, .inl g_cn_right)), (a22, .inl (cI, 46, .inl g_cn_year)), (a5, .inl (cI, 6, .inl g_se_weight)), (a15, .inl (cI, 6, .inl g_V_worn)), (a24, .inl (cI, 46, .inl g_cn_how))] H → va_D A [(a0, .inr (4, [.ref a1, .ref a2, .ref a3, .ref a4, .ref a5, .ref a6, .ref a7, .int v_se_7, .int h12, .int h13, .int v_se_10])), (a2, .inr (0, [.ref a8, .int v_fo_1, .int v_fo_2, .long w_fo_3, .int v_fo_4, .int v_fo_5, .long w_fo_6])), (a9, .inl (cI, 6, .inl g_V_off)), (a1, .inr (7, [.int v_V_0, .int v_V_1, .int v_V_2, .ref a10, .ref a11, .int v_V_5, .ref a12, .ref a13, .ref a14, .ref a9, .ref a15, .ref a16, .ref a17, .ref a18, .ref a19])), (a6, .inl (cI, 6, .inl g_se_least)), (a7, .inl (cI, 6, .inl g_se_most)), (a8, .inl (cJ, (fl g), .inr (.inl g_fo_rows))), (a4, .inl (cI, 7, .inl g_se_firstOf)), (a3, .inr (8, [.ref a20, .ref a21, .ref a22, .ref a23, .ref a24, .ref a25, .ref a26, .int v_cn_7])), (a20, .inl (cI, 46, .inl g_cn_left)), (a21, .inl (cI, 46, .inl g_cn_right)), (a22, .inl (cI, 46, .inl g_cn_year)), (a5, .inl (cI, 6, .inl g_se_weight)), (a15, .inl (cI, 6, .inl g_V_worn)), (a24, .inl (cI, 46, .inl g_cn_how))] → va_S A s.heap H locs → lv_has ls 6 [(0, .ref a0), (1, .int 4), (2, .long b2), (4, .int x11)] → W p l e ({ frames := 6, cells := 11 - g, slots := fs 11 - fs g, locals := 172 } : Room) s m args below meth c H locs (g - g) (fs g - fs g) Qm (F0 m 54 ls []) := by
      intro n
      induction n with
      | zero => intro x11 h12 h13 H locs ls hv hm; omega
      | succ n ih =>
        intro x11 h12 h13 H locs ls hv hm hNR hP hD hS hl
        refine lv_iload hx hb dX4_lay_54 (lv_at hl 3 rfl) ?_
        refine lv_aload_n hx hb dX4_lay_56 rfl (lv_at hl 0 rfl) ?_
        refine k_get hC hK hP iX4 0 3 wf_X4_34 rfl (by decide) rfl rfl dX4_lay_57 ?_
        refine lv_iload_n hx hb dX4_lay_60 rfl (lv_at hl 1 rfl) ?_
        refine lv_iconst (v := 1) hx hb dX4_lay_61 (by decide) ?_
        refine lv_iadd hx hb dX4_lay_62 ?_
        refine k_i 5 (by decide +kernel) ?_
        refine t_ialdX hC hK hP 7 rfl (by decide) (by decide) hT_g_se_firstOf dX4_lay_63 (fun z15 tz15 ex_63 => ?_)
        refine lv_icmp_ge (tgt := 80) hx hb dX4_lay_64 (by decide) (fun c16 => ?_) (fun c16 => ?_)
        · have dc16 : z15.toInt ≤ x11.toInt := (fa_le _ _).mp c16
          refine lv_aload_n hx hb dX4_lay_80 rfl (lv_at hl 0 rfl) ?_
          refine k_get hC hK hP iX4 0 9 wf_X4_54 rfl (by decide) rfl rfl dX4_lay_81 ?_
          refine lv_istore (lv' := [(4, .int h13), (0, .ref a0), (1, .int 4), (2, .long b2)]) hx hb dX4_lay_84 hl (by decide) rfl (fun ls hl => ?_)
          obtain ⟨Bs, hBs⟩ : ∃ q : Int, q = (v_fo_1 : Int32).toInt + KKf g_V_off (v_V_5 : Int32).toInt 2 := ⟨_, rfl⟩
          have hNR2 := hNR
          unfold NR at hNR2
          refine lv_aload_n hx hb dX4_lay_86 rfl (lv_at hl 1 rfl) ?_
          refine k_get hC hK hP iX4 0 8 wf_X4_51 rfl (by decide) rfl rfl dX4_lay_87 ?_
          refine lv_istore (lv' := [(5, .int h12), (4, .int h13), (0, .ref a0), (1, .int 4), (2, .long b2)]) hx hb dX4_lay_90 hl (by decide) rfl (fun ls hl => ?_)
          have L_92 : ∀ (n : Nat) (x17 : Int32) (g18 : Nat) (ad19 : Nat) (f20 : Nat → Int64) (h21 : Int32) (f22 : Nat → Int32) (h23 : Int32) (h24 : Int32) (H : Heap) (locs : List Loc) (ls : Array Slot), (0 ≤ x17.toInt ∧ g ≤ g18 ∧ g18 ≤ 11 ∧ 0 ≤ h21.toInt ∧ h21.toInt ≤ 300000 ∧ 0 ≤ h23.toInt ∧ h24.toInt ≤ 2147483646 ∧ (h21.toInt ≤ ((fl g18 : Nat) : Int))) → 2147483647 - x17.toInt < (n : Int) → (LK (h21 : Int32).toInt (x17 : Int32).toInt (h13 : Int32).toInt (KKf g_V_off (v_V_5 : Int32).toInt 1) Bs) → va_P G cl [(a0, .inr (4, [.ref a1, .ref a2, .ref a3, .ref a4, .ref a5, .ref a6, .ref a7, .int v_se_7, .int h23, .int h24, .int v_se_10])), (a2, .inr (0, [.ref ad19, .int h21, .int v_fo_2, .long w_fo_3, .int v_fo_4, .int v_fo_5, .long w_fo_6])), (a9, .inl (cI, 6, .inl g_V_off)), (a1, .inr (7, [.int v_V_0, .int v_V_1, .int v_V_2, .ref a10, .ref a11, .int v_V_5, .ref a12, .ref a13, .ref a14, .ref a9, .ref a15, .ref a16, .ref a17, .ref a18, .ref a19])), (a6, .inl (cI, 6, .inl g_se_least)), (a7, .inl (cI, 6, .inl g_se_most)), (ad19, .inl (cJ, (fl g18), .inr (.inl f20))), (a4, .inl (cI, 7, .inl g_se_firstOf)), (a3, .inr (8, [.ref a20, .ref a21, .ref a22, .ref a23, .ref a24, .ref a25, .ref a26, .int v_cn_7])), (a20, .inl (cI, 46, .inl g_cn_left)), (a21, .inl (cI, 46, .inl g_cn_right)), (a22, .inl (cI, 46, .inl g_cn_year)), (a5, .inl (cI, 6, .inl f22)), (a15, .inl (cI, 6, .inl g_V_worn)), (a24, .inl (cI, 46, .inl g_cn_how))] H → va_D A [(a0, .inr (4, [.ref a1, .ref a2, .ref a3, .ref a4, .ref a5, .ref a6, .ref a7, .int v_se_7, .int h23, .int h24, .int v_se_10])), (a2, .inr (0, [.ref ad19, .int h21, .int v_fo_2, .long w_fo_3, .int v_fo_4, .int v_fo_5, .long w_fo_6])), (a9, .inl (cI, 6, .inl g_V_off)), (a1, .inr (7, [.int v_V_0, .int v_V_1, .int v_V_2, .ref a10, .ref a11, .int v_V_5, .ref a12, .ref a13, .ref a14, .ref a9, .ref a15, .ref a16, .ref a17, .ref a18, .ref a19])), (a6, .inl (cI, 6, .inl g_se_least)), (a7, .inl (cI, 6, .inl g_se_most)), (ad19, .inl (cJ, (fl g18), .inr (.inl f20))), (a4, .inl (cI, 7, .inl g_se_firstOf)), (a3, .inr (8, [.ref a20, .ref a21, .ref a22, .ref a23, .ref a24, .ref a25, .ref a26, .int v_cn_7])), (a20, .inl (cI, 46, .inl g_cn_left)), (a21, .inl (cI, 46, .inl g_cn_right)), (a22, .inl (cI, 46, .inl g_cn_year)), (a5, .inl (cI, 6, .inl f22)), (a15, .inl (cI, 6, .inl g_V_worn)), (a24, .inl (cI, 46, .inl g_cn_how))] → va_S A s.heap H locs → lv_has ls 6 [(0, .ref a0), (1, .int 4), (2, .long b2), (4, .int h13), (5, .int x17)] → W p l e ({ frames := 6, cells := 11 - g, slots := fs 11 - fs g, locals := 172 } : Room) s m args below meth c H locs (g18 - g) (fs g18 - fs g) Qm (F0 m 92 ls []) := by
            intro n
            induction n with
            | zero => intro x17 g18 ad19 f20 h21 f22 h23 h24 H locs ls hv hm; have p_ := i_lo x17; have q_ := i_hi x17; omega
            | succ n ih_92 =>
              intro x17 g18 ad19 f20 h21 f22 h23 h24 H locs ls hv hm hLK hP hD hS hl
              have p_ := i_lo x17; have q_ := i_hi x17
              refine lv_iload hx hb dX4_lay_92 (lv_at hl 4 rfl) ?_
              refine lv_iload hx hb dX4_lay_94 (lv_at hl 3 rfl) ?_
              refine lv_icmp_gt (tgt := 127) hx hb dX4_lay_96 (by decide) (fun c25 => ?_) (fun c25 => ?_)
              · have dc25 : h13.toInt < x17.toInt := (fa_lt _ _).mp c25; have lbc25_0 := i_lo h13; have ubc25_1 := i_hi x17
                refine W.know (fun hgr => ?_)
                rw [← hQm]
                exact k_vretG hC hr hlk hK hP hD hS (h23, h24, h21, f20, f22, g18, ad19) [0, 1, 2, 3, 4, 5, 6, 7, 8, 9, 10, 11, 12, 13, 14] rfl (by decide +kernel) ⟨(show 0 ≤ h23.toInt ∧ h24.toInt ≤ 2147483646 ∧ 0 ≤ h21.toInt ∧ h21.toInt ≤ 300000 ∧ g ≤ g18 ∧ g18 ≤ 11 ∧ h21.toInt ≤ ((fl g18 : Nat) : Int) from by omega), (show (h21 : Int32).toInt ≤ (v_fo_1 : Int32).toInt + KKf g_V_off (v_V_5 : Int32).toInt 2 from by first | omega | (have q_ := hLK.1; omega))⟩ hgr (gr_lc (by omega) (by omega)) (gr_ls (by omega) (by omega)) dX4_lay_127
              · have dc25 : x17.toInt ≤ h13.toInt := fa_nlt c25; have lbc25_0 := i_lo h13; have ubc25_1 := i_hi x17
                refine lv_aload_n hx hb dX4_lay_99 rfl (lv_at hl 0 rfl) ?_
                refine k_get hC hK hP iX4 0 4 wf_X4_38 rfl (by decide) rfl rfl dX4_lay_100 ?_
                refine lv_iload_n hx hb dX4_lay_103 rfl (lv_at hl 1 rfl) ?_
                refine lv_iload hx hb dX4_lay_104 (lv_at hl 4 rfl) ?_
                refine t_iastX hC hK hP hD hS 12 rfl (by decide) (by decide) (TA.all _) ⟨i_lo _, i_hi _⟩ dX4_lay_106 (fun f26 H locs up_106 hT_f26 hP hD hS => ?_)
                have hP : va_P G cl [(a0, .inr (4, [.ref a1, .ref a2, .ref a3, .ref a4, .ref a5, .ref a6, .ref a7, .int v_se_7, .int h23, .int h24, .int v_se_10])), (a2, .inr (0, [.ref ad19, .int h21, .int v_fo_2, .long w_fo_3, .int v_fo_4, .int v_fo_5, .long w_fo_6])), (a9, .inl (cI, 6, .inl g_V_off)), (a1, .inr (7, [.int v_V_0, .int v_V_1, .int v_V_2, .ref a10, .ref a11, .int v_V_5, .ref a12, .ref a13, .ref a14, .ref a9, .ref a15, .ref a16, .ref a17, .ref a18, .ref a19])), (a6, .inl (cI, 6, .inl g_se_least)), (a7, .inl (cI, 6, .inl g_se_most)), (ad19, .inl (cJ, (fl g18), .inr (.inl f20))), (a4, .inl (cI, 7, .inl g_se_firstOf)), (a3, .inr (8, [.ref a20, .ref a21, .ref a22, .ref a23, .ref a24, .ref a25, .ref a26, .int v_cn_7])), (a20, .inl (cI, 46, .inl g_cn_left)), (a21, .inl (cI, 46, .inl g_cn_right)), (a22, .inl (cI, 46, .inl g_cn_year)), (a5, .inl (cI, 6, .inl f26)), (a15, .inl (cI, 6, .inl g_V_worn)), (a24, .inl (cI, 46, .inl g_cn_how))] H := hP
                have hD : va_D A [(a0, .inr (4, [.ref a1, .ref a2, .ref a3, .ref a4, .ref a5, .ref a6, .ref a7, .int v_se_7, .int h23, .int h24, .int v_se_10])), (a2, .inr (0, [.ref ad19, .int h21, .int v_fo_2, .long w_fo_3, .int v_fo_4, .int v_fo_5, .long w_fo_6])), (a9, .inl (cI, 6, .inl g_V_off)), (a1, .inr (7, [.int v_V_0, .int v_V_1, .int v_V_2, .ref a10, .ref a11, .int v_V_5, .ref a12, .ref a13, .ref a14, .ref a9, .ref a15, .ref a16, .ref a17, .ref a18, .ref a19])), (a6, .inl (cI, 6, .inl g_se_least)), (a7, .inl (cI, 6, .inl g_se_most)), (ad19, .inl (cJ, (fl g18), .inr (.inl f20))), (a4, .inl (cI, 7, .inl g_se_firstOf)), (a3, .inr (8, [.ref a20, .ref a21, .ref a22, .ref a23, .ref a24, .ref a25, .ref a26, .int v_cn_7])), (a20, .inl (cI, 46, .inl g_cn_left)), (a21, .inl (cI, 46, .inl g_cn_right)), (a22, .inl (cI, 46, .inl g_cn_year)), (a5, .inl (cI, 6, .inl f26)), (a15, .inl (cI, 6, .inl g_V_worn)), (a24, .inl (cI, 46, .inl g_cn_how))] := hD
                refine lv_aload_n hx hb dX4_lay_107 rfl (lv_at hl 0 rfl) ?_
                refine lv_iload_n hx hb dX4_lay_108 rfl (lv_at hl 1 rfl) ?_
                refine lv_iconst (v := 1) hx hb dX4_lay_109 (by decide) ?_
                refine lv_iadd hx hb dX4_lay_110 ?_
                refine k_i 5 (by decide +kernel) ?_
                refine lv_lload_n hx hb dX4_lay_111 rfl (lv_at hl 2 rfl) ?_
                refine lv_iload_n hx hb dX4_lay_112 rfl (lv_at hl 1 rfl) ?_
                refine lv_iload hx hb dX4_lay_113 (lv_at hl 4 rfl) ?_
                have l_l29 : (4 : Int32).toInt = 4 := rfl
                refine k_cl (wr := [(a0, .inr (4, [.ref a1, .ref a2, .ref a3, .ref a4, .ref a5, .ref a6, .ref a7, .int v_se_7, .int h23, .int h24, .int v_se_10])), (a2, .inr (0, [.ref ad19, .int h21, .int v_fo_2, .long w_fo_3, .int v_fo_4, .int v_fo_5, .long w_fo_6])), (a9, .inl (cI, 6, .inl g_V_off)), (a1, .inr (7, [.int v_V_0, .int v_V_1, .int v_V_2, .ref a10, .ref a11, .int v_V_5, .ref a12, .ref a13, .ref a14, .ref a9, .ref a15, .ref a16, .ref a17, .ref a18, .ref a19])), (a6, .inl (cI, 6, .inl g_se_least)), (a7, .inl (cI, 6, .inl g_se_most)), (ad19, .inl (cJ, (fl g18), .inr (.inl f20))), (a4, .inl (cI, 7, .inl g_se_firstOf)), (a3, .inr (8, [.ref a20, .ref a21, .ref a22, .ref a23, .ref a24, .ref a25, .ref a26, .int v_cn_7])), (a20, .inl (cI, 46, .inl g_cn_left)), (a21, .inl (cI, 46, .inl g_cn_right)), (a22, .inl (cI, 46, .inl g_cn_year)), (a5, .inl (cI, 6, .inl f26)), (a15, .inl (cI, 6, .inl g_V_worn)), (a24, .inl (cI, 46, .inl g_cn_how))]) (k_rS hC hN hZ hS hA hK hP hD (c151_X0_withWeight l G cI cJ cB cZ b2 4 x17) [] rfl (by decide +kernel) mi_X0_withWeight st_X0_withWeight wm_X4_129 hl.1 rfl rfl (Nat.le_of_ble_eq_true rfl) ⟨(Nat.le_of_ble_eq_true rfl), (Nat.le_of_ble_eq_true rfl)⟩ dX4_lay_115 (gr_r0 (by omega) (by omega))) hP hD hS hA [] [0, 1, 2, 3, 4, 5, 6, 7, 8, 9, 10, 11, 12, 13, 14] rfl rfl (by decide +kernel) (by decide +kernel) (fun r28 u28 H locs hp hP hD hS => ?_)
                have hp : (True) := hp
                have hP : va_P G cl [(a0, .inr (4, [.ref a1, .ref a2, .ref a3, .ref a4, .ref a5, .ref a6, .ref a7, .int v_se_7, .int h23, .int h24, .int v_se_10])), (a2, .inr (0, [.ref ad19, .int h21, .int v_fo_2, .long w_fo_3, .int v_fo_4, .int v_fo_5, .long w_fo_6])), (a9, .inl (cI, 6, .inl g_V_off)), (a1, .inr (7, [.int v_V_0, .int v_V_1, .int v_V_2, .ref a10, .ref a11, .int v_V_5, .ref a12, .ref a13, .ref a14, .ref a9, .ref a15, .ref a16, .ref a17, .ref a18, .ref a19])), (a6, .inl (cI, 6, .inl g_se_least)), (a7, .inl (cI, 6, .inl g_se_most)), (ad19, .inl (cJ, (fl g18), .inr (.inl f20))), (a4, .inl (cI, 7, .inl g_se_firstOf)), (a3, .inr (8, [.ref a20, .ref a21, .ref a22, .ref a23, .ref a24, .ref a25, .ref a26, .int v_cn_7])), (a20, .inl (cI, 46, .inl g_cn_left)), (a21, .inl (cI, 46, .inl g_cn_right)), (a22, .inl (cI, 46, .inl g_cn_year)), (a5, .inl (cI, 6, .inl f26)), (a15, .inl (cI, 6, .inl g_V_worn)), (a24, .inl (cI, 46, .inl g_cn_how))] H := hP
                have hD : va_D A [(a0, .inr (4, [.ref a1, .ref a2, .ref a3, .ref a4, .ref a5, .ref a6, .ref a7, .int v_se_7, .int h23, .int h24, .int v_se_10])), (a2, .inr (0, [.ref ad19, .int h21, .int v_fo_2, .long w_fo_3, .int v_fo_4, .int v_fo_5, .long w_fo_6])), (a9, .inl (cI, 6, .inl g_V_off)), (a1, .inr (7, [.int v_V_0, .int v_V_1, .int v_V_2, .ref a10, .ref a11, .int v_V_5, .ref a12, .ref a13, .ref a14, .ref a9, .ref a15, .ref a16, .ref a17, .ref a18, .ref a19])), (a6, .inl (cI, 6, .inl g_se_least)), (a7, .inl (cI, 6, .inl g_se_most)), (ad19, .inl (cJ, (fl g18), .inr (.inl f20))), (a4, .inl (cI, 7, .inl g_se_firstOf)), (a3, .inr (8, [.ref a20, .ref a21, .ref a22, .ref a23, .ref a24, .ref a25, .ref a26, .int v_cn_7])), (a20, .inl (cI, 46, .inl g_cn_left)), (a21, .inl (cI, 46, .inl g_cn_right)), (a22, .inl (cI, 46, .inl g_cn_year)), (a5, .inl (cI, 6, .inl f26)), (a15, .inl (cI, 6, .inl g_V_worn)), (a24, .inl (cI, 46, .inl g_cn_how))] := hD
                have hq28 := hp
                have lu_ := LK.use hLK (by omega) (by omega)
                refine W.know (fun hgr => ?_)
                refine k_cvG (wr := []) (k_rVG hC hN hZ hS hA hK hP hD (c153_X4_lay l G cI cJ cB cZ a0 a1 a2 a3 a4 a5 a6 a7 ad19 a9 a10 a11 a12 a13 a14 a15 a16 a17 a18 a19 a20 a21 a22 a23 a24 a25 a26 g18 r28 v_se_7 h23 h24 v_se_10 h21 v_fo_2 w_fo_3 v_fo_4 v_fo_5 w_fo_6 v_V_0 v_V_1 v_V_2 v_V_5 v_cn_7 g_V_off g_se_least g_se_most f20 g_se_firstOf g_cn_left g_cn_right g_cn_year f26 g_V_worn g_cn_how (by omega) (by omega) (by omega) (by omega) hv_4 hv_5 hv_6 hv_7 hv_8 hv_9 hv_10 hv_11 hv_12 hv_13 hv_14 hv_15 (by omega) (by omega) hT_g_V_off hT_g_se_least hT_g_se_most hT_g_se_firstOf (by omega) (by assumption)) [0, 1, 2, 3, 4, 5, 6, 7, 8, 9, 10, 11, 12, 13, 14] rfl (by decide +kernel) mi_X4_lay in_X4_lay se_X4_lay wm_X4_105 4 0 rfl rfl rfl hl.1 rfl rfl (Nat.le_of_ble_eq_true rfl) ⟨(Nat.le_of_ble_eq_true rfl), (Nat.le_of_ble_eq_true rfl)⟩ dX4_lay_118 (gr_rG (by omega) (by omega))) hP hD hS hA [0, 1, 2, 3, 4, 5, 6, 7, 8, 9, 10, 11, 12, 13, 14] [] rfl rfl (by decide +kernel) (by decide +kernel) (fun u30 H locs hp hP hD hS hgn => ?_)
                obtain ⟨h31, h32, h33, f34, f35, g36, ad37⟩ := u30
                obtain ⟨hp, hsz_118⟩ : (0 ≤ h31.toInt ∧ h32.toInt ≤ 2147483646 ∧ 0 ≤ h33.toInt ∧ h33.toInt ≤ 300000 ∧ g18 ≤ g36 ∧ g36 ≤ 11 ∧ h33.toInt ≤ ((fl g36 : Nat) : Int)) ∧ ((h33 : Int32).toInt ≤ (h21 : Int32).toInt + KKf g_V_off (v_V_5 : Int32).toInt 1) := hp
                have hP : va_P G cl [(a0, .inr (4, [.ref a1, .ref a2, .ref a3, .ref a4, .ref a5, .ref a6, .ref a7, .int v_se_7, .int h31, .int h32, .int v_se_10])), (a2, .inr (0, [.ref ad37, .int h33, .int v_fo_2, .long w_fo_3, .int v_fo_4, .int v_fo_5, .long w_fo_6])), (a9, .inl (cI, 6, .inl g_V_off)), (a1, .inr (7, [.int v_V_0, .int v_V_1, .int v_V_2, .ref a10, .ref a11, .int v_V_5, .ref a12, .ref a13, .ref a14, .ref a9, .ref a15, .ref a16, .ref a17, .ref a18, .ref a19])), (a6, .inl (cI, 6, .inl g_se_least)), (a7, .inl (cI, 6, .inl g_se_most)), (ad37, .inl (cJ, (fl g36), .inr (.inl f34))), (a4, .inl (cI, 7, .inl g_se_firstOf)), (a3, .inr (8, [.ref a20, .ref a21, .ref a22, .ref a23, .ref a24, .ref a25, .ref a26, .int v_cn_7])), (a20, .inl (cI, 46, .inl g_cn_left)), (a21, .inl (cI, 46, .inl g_cn_right)), (a22, .inl (cI, 46, .inl g_cn_year)), (a5, .inl (cI, 6, .inl f35)), (a15, .inl (cI, 6, .inl g_V_worn)), (a24, .inl (cI, 46, .inl g_cn_how))] H := hP
                have hD : va_D A [(a0, .inr (4, [.ref a1, .ref a2, .ref a3, .ref a4, .ref a5, .ref a6, .ref a7, .int v_se_7, .int h31, .int h32, .int v_se_10])), (a2, .inr (0, [.ref ad37, .int h33, .int v_fo_2, .long w_fo_3, .int v_fo_4, .int v_fo_5, .long w_fo_6])), (a9, .inl (cI, 6, .inl g_V_off)), (a1, .inr (7, [.int v_V_0, .int v_V_1, .int v_V_2, .ref a10, .ref a11, .int v_V_5, .ref a12, .ref a13, .ref a14, .ref a9, .ref a15, .ref a16, .ref a17, .ref a18, .ref a19])), (a6, .inl (cI, 6, .inl g_se_least)), (a7, .inl (cI, 6, .inl g_se_most)), (ad37, .inl (cJ, (fl g36), .inr (.inl f34))), (a4, .inl (cI, 7, .inl g_se_firstOf)), (a3, .inr (8, [.ref a20, .ref a21, .ref a22, .ref a23, .ref a24, .ref a25, .ref a26, .int v_cn_7])), (a20, .inl (cI, 46, .inl g_cn_left)), (a21, .inl (cI, 46, .inl g_cn_right)), (a22, .inl (cI, 46, .inl g_cn_year)), (a5, .inl (cI, 6, .inl f35)), (a15, .inl (cI, 6, .inl g_V_worn)), (a24, .inl (cI, 46, .inl g_cn_how))] := hD
                have hq30 := hp
                refine W.tight (k := g36 - g) (n := fs g36 - fs g) (GR.tr3 hgr hgn (by omega) (by omega)) ?_
                obtain ⟨z38, ez38⟩ : ∃ q : Int32, q = x17 + Int32.ofInt 1 := ⟨_, rfl⟩
                have tz38 : z38.toInt = x17.toInt + 1 := by rw [ez38]; exact add_i (y := 1) (by have p_ := i_lo x17; show _ ≤ _ + (1 : Int); omega) (by have q_ := i_hi x17; show _ + (1 : Int) ≤ _; omega)
                refine lv_iinc (v := z38) (lv' := [(5, .int z38), (0, .ref a0), (1, .int 4), (2, .long b2), (4, .int h13)]) hx hb dX4_lay_121 hl (k := 4) rfl ez38.symm (by decide) rfl (fun ls hl => ?_)
                refine lv_goto (tgt := 92) hx hb dX4_lay_124 (by decide) ?_
                exact ih_92  z38 g36 ad37 f34 h33 f35 h31 h32 H locs ls (by omega) (by omega) (by exact LK.step hLK (by omega) hsz_118 (by omega) (by omega)) (hP.subm [0, 1, 2, 3, 4, 5, 6, 7, 8, 9, 10, 11, 12, 13, 14] rfl) (hD.sub [0, 1, 2, 3, 4, 5, 6, 7, 8, 9, 10, 11, 12, 13, 14] (by decide +kernel) rfl) hS (lv_sub hl [1, 2, 3, 4, 0] rfl)
          exact L_92 2147483648 h12 g a8 g_fo_rows v_fo_1 g_se_weight h12 h13 H locs ls (by omega) (by omega) (by exact LK.start (D := 2 * gI g_V_off 4 + 1) (by omega) (fun _ => by omega) (by omega) (by omega)) (hP.subm [0, 1, 2, 3, 4, 5, 6, 7, 8, 9, 10, 11, 12, 13, 14] rfl) (hD.sub [0, 1, 2, 3, 4, 5, 6, 7, 8, 9, 10, 11, 12, 13, 14] (by decide +kernel) rfl) hS (lv_sub hl [2, 3, 4, 1, 0] rfl)
        · have dc16 : x11.toInt < z15.toInt := fa_nle c16
          refine lv_aload_n hx hb dX4_lay_67 rfl (lv_at hl 0 rfl) ?_
          refine lv_iload hx hb dX4_lay_68 (lv_at hl 3 rfl) ?_
          refine lv_iload_n hx hb dX4_lay_70 rfl (lv_at hl 1 rfl) ?_
          have l_l40 : (4 : Int32).toInt = 4 := rfl
          refine k_cv (wr := [(a2, .inr (0, [.ref a8, .int v_fo_1, .int v_fo_2, .long w_fo_3, .int v_fo_4, .int v_fo_5, .long w_fo_6])), (a9, .inl (cI, 6, .inl g_V_off)), (a6, .inl (cI, 6, .inl g_se_least)), (a7, .inl (cI, 6, .inl g_se_most)), (a8, .inl (cJ, (fl g), .inr (.inl g_fo_rows))), (a4, .inl (cI, 7, .inl g_se_firstOf))]) (k_rV hC hN hZ hS hA hK hP hD (c150_X4_narrow l G cI cJ cB cZ a0 a1 a2 a3 a4 a5 a6 a7 a20 a21 a22 a23 a24 a25 a26 a10 a11 a12 a13 a14 a9 a15 a16 a17 a18 a19 x11 4 v_se_7 h12 h13 v_se_10 v_cn_7 v_V_0 v_V_1 v_V_2 v_V_5 g_cn_left g_cn_right g_cn_year g_se_weight g_V_worn g_cn_how (by omega) (by omega) (by omega) (by omega) (by omega) (by omega) hv_14 hv_15 hv_8 hv_9 hv_10 hv_11 hv_12 hv_13) [0, 8, 9, 10, 11, 3, 12, 13, 14] rfl (by decide +kernel) mi_X4_narrow in_X4_narrow se_X4_narrow wm_X4_126 4 0 rfl rfl rfl hl.1 rfl rfl (Nat.le_of_ble_eq_true rfl) ⟨(Nat.le_of_ble_eq_true rfl), (Nat.le_of_ble_eq_true rfl)⟩ dX4_lay_71 (gr_r0 (by omega) (by omega))) hP hD hS hA [0, 8, 9, 10, 11, 3, 12, 13, 14] [1, 2, 4, 5, 6, 7] rfl rfl (by decide +kernel) (by decide +kernel) (fun u39 H locs hp hP hD hS => ?_)
          obtain ⟨h41, h42⟩ := u39
          obtain ⟨hp, hnr_71⟩ : (0 ≤ h41.toInt ∧ h42.toInt ≤ 2147483646) ∧ (NR (h12 : Int32).toInt (h13 : Int32).toInt (h41 : Int32).toInt (h42 : Int32).toInt) := hp
          have hP : va_P G cl [(a2, .inr (0, [.ref a8, .int v_fo_1, .int v_fo_2, .long w_fo_3, .int v_fo_4, .int v_fo_5, .long w_fo_6])), (a9, .inl (cI, 6, .inl g_V_off)), (a6, .inl (cI, 6, .inl g_se_least)), (a7, .inl (cI, 6, .inl g_se_most)), (a8, .inl (cJ, (fl g), .inr (.inl g_fo_rows))), (a4, .inl (cI, 7, .inl g_se_firstOf)), (a0, .inr (4, [.ref a1, .ref a2, .ref a3, .ref a4, .ref a5, .ref a6, .ref a7, .int v_se_7, .int h41, .int h42, .int v_se_10])), (a3, .inr (8, [.ref a20, .ref a21, .ref a22, .ref a23, .ref a24, .ref a25, .ref a26, .int v_cn_7])), (a20, .inl (cI, 46, .inl g_cn_left)), (a21, .inl (cI, 46, .inl g_cn_right)), (a22, .inl (cI, 46, .inl g_cn_year)), (a1, .inr (7, [.int v_V_0, .int v_V_1, .int v_V_2, .ref a10, .ref a11, .int v_V_5, .ref a12, .ref a13, .ref a14, .ref a9, .ref a15, .ref a16, .ref a17, .ref a18, .ref a19])), (a5, .inl (cI, 6, .inl g_se_weight)), (a15, .inl (cI, 6, .inl g_V_worn)), (a24, .inl (cI, 46, .inl g_cn_how))] H := hP
          have hD : va_D A [(a2, .inr (0, [.ref a8, .int v_fo_1, .int v_fo_2, .long w_fo_3, .int v_fo_4, .int v_fo_5, .long w_fo_6])), (a9, .inl (cI, 6, .inl g_V_off)), (a6, .inl (cI, 6, .inl g_se_least)), (a7, .inl (cI, 6, .inl g_se_most)), (a8, .inl (cJ, (fl g), .inr (.inl g_fo_rows))), (a4, .inl (cI, 7, .inl g_se_firstOf)), (a0, .inr (4, [.ref a1, .ref a2, .ref a3, .ref a4, .ref a5, .ref a6, .ref a7, .int v_se_7, .int h41, .int h42, .int v_se_10])), (a3, .inr (8, [.ref a20, .ref a21, .ref a22, .ref a23, .ref a24, .ref a25, .ref a26, .int v_cn_7])), (a20, .inl (cI, 46, .inl g_cn_left)), (a21, .inl (cI, 46, .inl g_cn_right)), (a22, .inl (cI, 46, .inl g_cn_year)), (a1, .inr (7, [.int v_V_0, .int v_V_1, .int v_V_2, .ref a10, .ref a11, .int v_V_5, .ref a12, .ref a13, .ref a14, .ref a9, .ref a15, .ref a16, .ref a17, .ref a18, .ref a19])), (a5, .inl (cI, 6, .inl g_se_weight)), (a15, .inl (cI, 6, .inl g_V_worn)), (a24, .inl (cI, 46, .inl g_cn_how))] := hD
          have hq39 := hp
          obtain ⟨z43, ez43⟩ : ∃ q : Int32, q = x11 + Int32.ofInt 1 := ⟨_, rfl⟩
          have tz43 : z43.toInt = x11.toInt + 1 := by rw [ez43]; exact add_i (y := 1) (by have p_ := i_lo x11; show _ ≤ _ + (1 : Int); omega) (by have q_ := i_hi x11; show _ + (1 : Int) ≤ _; omega)
          refine lv_iinc (v := z43) (lv' := [(4, .int z43), (0, .ref a0), (1, .int 4), (2, .long b2)]) hx hb dX4_lay_74 hl (k := 3) rfl ez43.symm (by decide) rfl (fun ls hl => ?_)
          refine lv_goto (tgt := 54) hx hb dX4_lay_77 (by decide) ?_
          exact ih  z43 h41 h42 H locs ls (by omega) (by omega) (by exact NR.tr hNR hnr_71) (hP.subm [6, 0, 1, 11, 2, 3, 4, 5, 7, 8, 9, 10, 12, 13, 14] rfl) (hD.sub [6, 0, 1, 11, 2, 3, 4, 5, 7, 8, 9, 10, 12, 13, 14] (by decide +kernel) rfl) hS (lv_sub hl [1, 2, 3, 0] rfl)
    exact L_54 47 z10 z8 z9 H locs ls (by omega) (by omega) (by rw [← ex_32 4 rfl, ← ex_42 4 rfl]; exact NR.rf) (hP.subm [0, 1, 2, 3, 4, 5, 6, 7, 8, 9, 10, 11, 12, 13, 14] rfl) (hD.sub [0, 1, 2, 3, 4, 5, 6, 7, 8, 9, 10, 11, 12, 13, 14] (by decide +kernel) rfl) hS (lv_sub hl [1, 2, 3, 0] rfl)
set_option maxHeartbeats 4000000 in
set_option maxRecDepth 100000 in
theorem c155_X4_lay (l : Launch) (G : va_G) (cI cJ cB cZ : ClassId) (a0 a1 a2 a3 a4 a5 a6 a7 a8 a9 a10 a11 a12 a13 a14 a15 a16 a17 a18 a19 a20 a21 a22 a23 a24 a25 a26 : Nat) (g : Nat) (b2 : Int64) (v_se_7 : Int32) (v_se_8 : Int32) (v_se_9 : Int32) (v_se_10 : Int32) (v_fo_1 : Int32) (v_fo_2 : Int32) (w_fo_3 : Int64) (v_fo_4 : Int32) (v_fo_5 : Int32) (w_fo_6 : Int64) (v_V_0 : Int32) (v_V_1 : Int32) (v_V_2 : Int32) (v_V_5 : Int32) (v_cn_7 : Int32) (g_V_off : Nat → Int32) (g_se_least : Nat → Int32) (g_se_most : Nat → Int32) (g_fo_rows : Nat → Int64) (g_se_firstOf : Nat → Int32) (g_cn_left : Nat → Int32) (g_cn_right : Nat → Int32) (g_cn_year : Nat → Int32) (g_se_weight : Nat → Int32) (g_V_worn : Nat → Int32) (g_cn_how : Nat → Int32) (hv_0 : 0 ≤ v_se_8.toInt) (hv_1 : v_se_9.toInt ≤ 2147483646) (hv_2 : 0 ≤ v_fo_1.toInt) (hv_3 : v_fo_1.toInt ≤ 300000) (hv_4 : 0 ≤ v_fo_2.toInt) (hv_5 : v_fo_2.toInt ≤ 1) (hv_6 : 0 ≤ v_fo_5.toInt) (hv_7 : v_fo_5.toInt ≤ 1) (hv_8 : 0 ≤ v_V_0.toInt) (hv_9 : v_V_0.toInt ≤ 110) (hv_10 : 0 ≤ v_V_1.toInt) (hv_11 : v_V_1.toInt ≤ 110) (hv_12 : 0 ≤ v_V_5.toInt) (hv_13 : v_V_5.toInt ≤ 6) (hv_14 : 0 ≤ v_cn_7.toInt) (hv_15 : v_cn_7.toInt ≤ 46) (hv_16 : g ≤ 11) (hv_17 : (v_fo_1.toInt ≤ ((fl g : Nat) : Int))) (hT_g_V_off : TA 0 4 g_V_off) (hT_g_se_least : TA 0 2147483647 g_se_least) (hT_g_se_most : TA (-2147483648) 2147483646 g_se_most) (hT_g_se_firstOf : TA 0 46 g_se_firstOf) (hSz : (v_fo_1 : Int32).toInt + KKf g_V_off (v_V_5 : Int32).toInt 3 ≤ 300000) (hSP : SPn g_V_off g_se_least g_se_most (v_V_5 : Int32).toInt) : ConG l G (TY cI cJ cB cZ) yX4_lay cX4_lay 6 none ({ frames := 7, cells := 11 - g, slots := fs 11 - fs g, locals := 197 } : Room) [.ref a0, .int 3, .long b2] [(a0, .inr (4, [.ref a1, .ref a2, .ref a3, .ref a4, .ref a5, .ref a6, .ref a7, .int v_se_7, .int v_se_8, .int v_se_9, .int v_se_10])), (a2, .inr (0, [.ref a8, .int v_fo_1, .int v_fo_2, .long w_fo_3, .int v_fo_4, .int v_fo_5, .long w_fo_6])), (a9, .inl (cI, 6, .inl g_V_off)), (a1, .inr (7, [.int v_V_0, .int v_V_1, .int v_V_2, .ref a10, .ref a11, .int v_V_5, .ref a12, .ref a13, .ref a14, .ref a9, .ref a15, .ref a16, .ref a17, .ref a18, .ref a19])), (a6, .inl (cI, 6, .inl g_se_least)), (a7, .inl (cI, 6, .inl g_se_most)), (a8, .inl (cJ, (fl g), .inr (.inl g_fo_rows))), (a4, .inl (cI, 7, .inl g_se_firstOf)), (a3, .inr (8, [.ref a20, .ref a21, .ref a22, .ref a23, .ref a24, .ref a25, .ref a26, .int v_cn_7])), (a20, .inl (cI, 46, .inl g_cn_left)), (a21, .inl (cI, 46, .inl g_cn_right)), (a22, .inl (cI, 46, .inl g_cn_year)), (a5, .inl (cI, 6, .inl g_se_weight)), (a15, .inl (cI, 6, .inl g_V_worn)), (a24, .inl (cI, 46, .inl g_cn_how))] (QVG G (TY cI cJ cB cZ) g (fun u : Int32 × Int32 × Int32 × (Nat → Int64) × (Nat → Int32) × Nat × Nat => u.2.2.2.2.2.1) (fun u : Int32 × Int32 × Int32 × (Nat → Int64) × (Nat → Int32) × Nat × Nat => (0 ≤ u.1.toInt ∧ u.2.1.toInt ≤ 2147483646 ∧ 0 ≤ u.2.2.1.toInt ∧ u.2.2.1.toInt ≤ 300000 ∧ g ≤ u.2.2.2.2.2.1 ∧ u.2.2.2.2.2.1 ≤ 11 ∧ u.2.2.1.toInt ≤ ((fl u.2.2.2.2.2.1 : Nat) : Int)) ∧ ((u.2.2.1 : Int32).toInt ≤ (v_fo_1 : Int32).toInt + KKf g_V_off (v_V_5 : Int32).toInt 3)) (fun u : Int32 × Int32 × Int32 × (Nat → Int64) × (Nat → Int32) × Nat × Nat => [(a0, .inr (4, [.ref a1, .ref a2, .ref a3, .ref a4, .ref a5, .ref a6, .ref a7, .int v_se_7, .int u.1, .int u.2.1, .int v_se_10])), (a2, .inr (0, [.ref u.2.2.2.2.2.2, .int u.2.2.1, .int v_fo_2, .long w_fo_3, .int v_fo_4, .int v_fo_5, .long w_fo_6])), (a9, .inl (cI, 6, .inl g_V_off)), (a1, .inr (7, [.int v_V_0, .int v_V_1, .int v_V_2, .ref a10, .ref a11, .int v_V_5, .ref a12, .ref a13, .ref a14, .ref a9, .ref a15, .ref a16, .ref a17, .ref a18, .ref a19])), (a6, .inl (cI, 6, .inl g_se_least)), (a7, .inl (cI, 6, .inl g_se_most)), (u.2.2.2.2.2.2, .inl (cJ, (fl u.2.2.2.2.2.1), .inr (.inl u.2.2.2.1))), (a4, .inl (cI, 7, .inl g_se_firstOf)), (a3, .inr (8, [.ref a20, .ref a21, .ref a22, .ref a23, .ref a24, .ref a25, .ref a26, .int v_cn_7])), (a20, .inl (cI, 46, .inl g_cn_left)), (a21, .inl (cI, 46, .inl g_cn_right)), (a22, .inl (cI, 46, .inl g_cn_year)), (a5, .inl (cI, 6, .inl u.2.2.2.2.1)), (a15, .inl (cI, 6, .inl g_V_worn)), (a24, .inl (cI, 46, .inl g_cn_how))])) := by
  refine k_metG (by decide) (Nat.le_of_ble_eq_true rfl) ?_
  intro p e s m below meth c A ls hC hr hlk hnm hN hZ hK hA hP hD hS hl
  have hl : lv_has ls 6 [(0, .ref a0), (1, .int 3), (2, .long b2)] := hl
  generalize hQm : MQ below _ _ s _ _ A = Qm
  generalize (List.toArray _ : Array Value) = args at hC hQm ⊢
  obtain ⟨hx, hb, hml, hown, hts⟩ := id hC
  obtain ⟨H, hH⟩ : ∃ q, q = s.heap := ⟨_, rfl⟩
  obtain ⟨locs, hlo⟩ : ∃ q : List Loc, q = [] := ⟨_, rfl⟩
  have hP : va_P G cl [(a0, .inr (4, [.ref a1, .ref a2, .ref a3, .ref a4, .ref a5, .ref a6, .ref a7, .int v_se_7, .int v_se_8, .int v_se_9, .int v_se_10])), (a2, .inr (0, [.ref a8, .int v_fo_1, .int v_fo_2, .long w_fo_3, .int v_fo_4, .int v_fo_5, .long w_fo_6])), (a9, .inl (cI, 6, .inl g_V_off)), (a1, .inr (7, [.int v_V_0, .int v_V_1, .int v_V_2, .ref a10, .ref a11, .int v_V_5, .ref a12, .ref a13, .ref a14, .ref a9, .ref a15, .ref a16, .ref a17, .ref a18, .ref a19])), (a6, .inl (cI, 6, .inl g_se_least)), (a7, .inl (cI, 6, .inl g_se_most)), (a8, .inl (cJ, (fl g), .inr (.inl g_fo_rows))), (a4, .inl (cI, 7, .inl g_se_firstOf)), (a3, .inr (8, [.ref a20, .ref a21, .ref a22, .ref a23, .ref a24, .ref a25, .ref a26, .int v_cn_7])), (a20, .inl (cI, 46, .inl g_cn_left)), (a21, .inl (cI, 46, .inl g_cn_right)), (a22, .inl (cI, 46, .inl g_cn_year)), (a5, .inl (cI, 6, .inl g_se_weight)), (a15, .inl (cI, 6, .inl g_V_worn)), (a24, .inl (cI, 46, .inl g_cn_how))] H := by rw [hH]; exact hP
  have hS : va_S A s.heap H locs := by rw [hH, hlo]; exact hS
  rw [← hlo]
  rw [← hH]
  refine W.tight (k := g - g) (n := fs g - fs g) (by rw [hH]; exact GR.rf) ?_
  have kp_ := KKf_pos hT_g_V_off (v_V_5 : Int32).toInt 3
  refine lv_iload_n hx hb dX4_lay_0 rfl (lv_at hl 1 rfl) ?_
  refine lv_aload_n hx hb dX4_lay_1 rfl (lv_at hl 0 rfl) ?_
  refine k_get hC hK hP iX4 0 0 wf_X4_12 rfl (by decide) rfl rfl dX4_lay_2 ?_
  refine k_getN hC hN hK hP iX7 3 5 wf_X4_109 rfl (by decide) rfl rfl dX4_lay_5 ?_
  refine lv_icmp_ge (tgt := 17) hx hb dX4_lay_8 (by decide) (fun c1 => ?_) (fun c1 => ?_)
  · have dc1 : v_V_5.toInt ≤ 3 := (fa_le _ _).mp c1
    have as2 : 0 ≤ v_fo_1.toInt ∧ v_fo_1.toInt ≤ 299999 := by omega
    refine lv_aload_n hx hb dX4_lay_17 rfl (lv_at hl 0 rfl) ?_
    refine k_get hC hK hP iX4 0 1 wf_X4_21 rfl (by decide) rfl rfl dX4_lay_18 ?_
    refine lv_lload_n hx hb dX4_lay_21 rfl (lv_at hl 2 rfl) ?_
    refine W.know (fun hgr => ?_)
    refine k_cvG (wr := [(a0, .inr (4, [.ref a1, .ref a2, .ref a3, .ref a4, .ref a5, .ref a6, .ref a7, .int v_se_7, .int v_se_8, .int v_se_9, .int v_se_10])), (a9, .inl (cI, 6, .inl g_V_off)), (a1, .inr (7, [.int v_V_0, .int v_V_1, .int v_V_2, .ref a10, .ref a11, .int v_V_5, .ref a12, .ref a13, .ref a14, .ref a9, .ref a15, .ref a16, .ref a17, .ref a18, .ref a19])), (a6, .inl (cI, 6, .inl g_se_least)), (a7, .inl (cI, 6, .inl g_se_most)), (a4, .inl (cI, 7, .inl g_se_firstOf)), (a3, .inr (8, [.ref a20, .ref a21, .ref a22, .ref a23, .ref a24, .ref a25, .ref a26, .int v_cn_7])), (a20, .inl (cI, 46, .inl g_cn_left)), (a21, .inl (cI, 46, .inl g_cn_right)), (a22, .inl (cI, 46, .inl g_cn_year)), (a5, .inl (cI, 6, .inl g_se_weight)), (a15, .inl (cI, 6, .inl g_V_worn)), (a24, .inl (cI, 46, .inl g_cn_how))]) (k_rVG hC hN hZ hS hA hK hP hD (c149_X0_put l G cI cJ cB cZ a2 a8 g b2 v_fo_1 v_fo_2 w_fo_3 v_fo_4 v_fo_5 w_fo_6 g_fo_rows hv_2 (by omega) hv_4 hv_5 hv_6 hv_7 hv_16 hv_17) [1, 6] rfl (by decide +kernel) mi_X0_put in_X0_put se_X0_put wm_X4_122 0 1 rfl rfl rfl hl.1 rfl rfl (Nat.le_of_ble_eq_true rfl) ⟨(Nat.le_of_ble_eq_true rfl), (Nat.le_of_ble_eq_true rfl)⟩ dX4_lay_22 (gr_rG (by omega) (by omega))) hP hD hS hA [1, 6] [0, 2, 3, 4, 5, 7, 8, 9, 10, 11, 12, 13, 14] rfl rfl (by decide +kernel) (by decide +kernel) (fun u3 H locs hp hP hD hS hgn => ?_)
    obtain ⟨h4, f5, g6, ad7⟩ := u3
    have hp : (1 ≤ h4.toInt ∧ h4.toInt ≤ 300000 ∧ (h4.toInt = v_fo_1.toInt + 1) ∧ g ≤ g6 ∧ g6 ≤ 11 ∧ h4.toInt ≤ ((fl g6 : Nat) : Int)) := hp
    have hP : va_P G cl [(a0, .inr (4, [.ref a1, .ref a2, .ref a3, .ref a4, .ref a5, .ref a6, .ref a7, .int v_se_7, .int v_se_8, .int v_se_9, .int v_se_10])), (a9, .inl (cI, 6, .inl g_V_off)), (a1, .inr (7, [.int v_V_0, .int v_V_1, .int v_V_2, .ref a10, .ref a11, .int v_V_5, .ref a12, .ref a13, .ref a14, .ref a9, .ref a15, .ref a16, .ref a17, .ref a18, .ref a19])), (a6, .inl (cI, 6, .inl g_se_least)), (a7, .inl (cI, 6, .inl g_se_most)), (a4, .inl (cI, 7, .inl g_se_firstOf)), (a3, .inr (8, [.ref a20, .ref a21, .ref a22, .ref a23, .ref a24, .ref a25, .ref a26, .int v_cn_7])), (a20, .inl (cI, 46, .inl g_cn_left)), (a21, .inl (cI, 46, .inl g_cn_right)), (a22, .inl (cI, 46, .inl g_cn_year)), (a5, .inl (cI, 6, .inl g_se_weight)), (a15, .inl (cI, 6, .inl g_V_worn)), (a24, .inl (cI, 46, .inl g_cn_how)), (a2, .inr (0, [.ref ad7, .int h4, .int v_fo_2, .long w_fo_3, .int v_fo_4, .int v_fo_5, .long w_fo_6])), (ad7, .inl (cJ, (fl g6), .inr (.inl f5)))] H := hP
    have hD : va_D A [(a0, .inr (4, [.ref a1, .ref a2, .ref a3, .ref a4, .ref a5, .ref a6, .ref a7, .int v_se_7, .int v_se_8, .int v_se_9, .int v_se_10])), (a9, .inl (cI, 6, .inl g_V_off)), (a1, .inr (7, [.int v_V_0, .int v_V_1, .int v_V_2, .ref a10, .ref a11, .int v_V_5, .ref a12, .ref a13, .ref a14, .ref a9, .ref a15, .ref a16, .ref a17, .ref a18, .ref a19])), (a6, .inl (cI, 6, .inl g_se_least)), (a7, .inl (cI, 6, .inl g_se_most)), (a4, .inl (cI, 7, .inl g_se_firstOf)), (a3, .inr (8, [.ref a20, .ref a21, .ref a22, .ref a23, .ref a24, .ref a25, .ref a26, .int v_cn_7])), (a20, .inl (cI, 46, .inl g_cn_left)), (a21, .inl (cI, 46, .inl g_cn_right)), (a22, .inl (cI, 46, .inl g_cn_year)), (a5, .inl (cI, 6, .inl g_se_weight)), (a15, .inl (cI, 6, .inl g_V_worn)), (a24, .inl (cI, 46, .inl g_cn_how)), (a2, .inr (0, [.ref ad7, .int h4, .int v_fo_2, .long w_fo_3, .int v_fo_4, .int v_fo_5, .long w_fo_6])), (ad7, .inl (cJ, (fl g6), .inr (.inl f5)))] := hD
    have hq3 := hp
    refine W.tight (k := g6 - g) (n := fs g6 - fs g) (GR.tr3 hgr hgn (by omega) (by omega)) ?_
    refine W.know (fun hgr => ?_)
    rw [← hQm]
    exact k_vretG hC hr hlk hK hP hD hS (v_se_8, v_se_9, h4, f5, g_se_weight, g6, ad7) [0, 13, 1, 2, 3, 4, 14, 5, 6, 7, 8, 9, 10, 11, 12] rfl (by decide +kernel) ⟨(show 0 ≤ v_se_8.toInt ∧ v_se_9.toInt ≤ 2147483646 ∧ 0 ≤ h4.toInt ∧ h4.toInt ≤ 300000 ∧ g ≤ g6 ∧ g6 ≤ 11 ∧ h4.toInt ≤ ((fl g6 : Nat) : Int) from by omega), (show (h4 : Int32).toInt ≤ (v_fo_1 : Int32).toInt + KKf g_V_off (v_V_5 : Int32).toInt 3 from by first | omega | (have q_ := hLK.1; omega))⟩ hgr (gr_lc (by omega) (by omega)) (gr_ls (by omega) (by omega)) dX4_lay_25
  · have dc1 : 3 < v_V_5.toInt := fa_nle c1
    refine lv_iload_n hx hb dX4_lay_11 rfl (lv_at hl 1 rfl) ?_
    refine lv_bipush (v := 6) hx hb dX4_lay_12 (by decide) ?_
    refine lv_icmp_lt (tgt := 26) hx hb dX4_lay_14 (by decide) (fun _ => ?_) (fun c_ => absurd (by decide +kernel) c_)
    have kin_ : KKf g_V_off (v_V_5 : Int32).toInt 3 = (2 * gI g_V_off 3 + 1) * KKf g_V_off (v_V_5 : Int32).toInt 2 := KKf_in 2 (by decide) (by omega)
    have kp2_ := KKf_pos hT_g_V_off (v_V_5 : Int32).toInt 2
    have sp_ := hSP 3 (by decide) (by omega)
    refine lv_aload_n hx hb dX4_lay_26 rfl (lv_at hl 0 rfl) ?_
    refine lv_aload_n hx hb dX4_lay_27 rfl (lv_at hl 0 rfl) ?_
    refine k_get hC hK hP iX4 0 5 wf_X4_41 rfl (by decide) rfl rfl dX4_lay_28 ?_
    refine lv_iload_n hx hb dX4_lay_31 rfl (lv_at hl 1 rfl) ?_
    refine t_ialdX hC hK hP 4 rfl (by decide) (by decide) hT_g_se_least dX4_lay_32 (fun z8 tz8 ex_32 => ?_)
    refine k_put hC hK hP hD hS iX4 tyX4_ok nmX4 0 8 wf_X4_51 rfl (by decide) rfl rfl rfl rfl (Nat.le_of_ble_eq_true rfl) dX4_lay_33 (fun H locs hP hD hS => ?_)
    have hP : va_P G cl [(a0, .inr (4, [.ref a1, .ref a2, .ref a3, .ref a4, .ref a5, .ref a6, .ref a7, .int v_se_7, .int z8, .int v_se_9, .int v_se_10])), (a2, .inr (0, [.ref a8, .int v_fo_1, .int v_fo_2, .long w_fo_3, .int v_fo_4, .int v_fo_5, .long w_fo_6])), (a9, .inl (cI, 6, .inl g_V_off)), (a1, .inr (7, [.int v_V_0, .int v_V_1, .int v_V_2, .ref a10, .ref a11, .int v_V_5, .ref a12, .ref a13, .ref a14, .ref a9, .ref a15, .ref a16, .ref a17, .ref a18, .ref a19])), (a6, .inl (cI, 6, .inl g_se_least)), (a7, .inl (cI, 6, .inl g_se_most)), (a8, .inl (cJ, (fl g), .inr (.inl g_fo_rows))), (a4, .inl (cI, 7, .inl g_se_firstOf)), (a3, .inr (8, [.ref a20, .ref a21, .ref a22, .ref a23, .ref a24, .ref a25, .ref a26, .int v_cn_7])), (a20, .inl (cI, 46, .inl g_cn_left)), (a21, .inl (cI, 46, .inl g_cn_right)), (a22, .inl (cI, 46, .inl g_cn_year)), (a5, .inl (cI, 6, .inl g_se_weight)), (a15, .inl (cI, 6, .inl g_V_worn)), (a24, .inl (cI, 46, .inl g_cn_how))] H := hP
    have hD : va_D A [(a0, .inr (4, [.ref a1, .ref a2, .ref a3, .ref a4, .ref a5, .ref a6, .ref a7, .int v_se_7, .int z8, .int v_se_9, .int v_se_10])), (a2, .inr (0, [.ref a8, .int v_fo_1, .int v_fo_2, .long w_fo_3, .int v_fo_4, .int v_fo_5, .long w_fo_6])), (a9, .inl (cI, 6, .inl g_V_off)), (a1, .inr (7, [.int v_V_0, .int v_V_1, .int v_V_2, .ref a10, .ref a11, .int v_V_5, .ref a12, .ref a13, .ref a14, .ref a9, .ref a15, .ref a16, .ref a17, .ref a18, .ref a19])), (a6, .inl (cI, 6, .inl g_se_least)), (a7, .inl (cI, 6, .inl g_se_most)), (a8, .inl (cJ, (fl g), .inr (.inl g_fo_rows))), (a4, .inl (cI, 7, .inl g_se_firstOf)), (a3, .inr (8, [.ref a20, .ref a21, .ref a22, .ref a23, .ref a24, .ref a25, .ref a26, .int v_cn_7])), (a20, .inl (cI, 46, .inl g_cn_left)), (a21, .inl (cI, 46, .inl g_cn_right)), (a22, .inl (cI, 46, .inl g_cn_year)), (a5, .inl (cI, 6, .inl g_se_weight)), (a15, .inl (cI, 6, .inl g_V_worn)), (a24, .inl (cI, 46, .inl g_cn_how))] := hD
    refine lv_aload_n hx hb dX4_lay_36 rfl (lv_at hl 0 rfl) ?_
    refine lv_aload_n hx hb dX4_lay_37 rfl (lv_at hl 0 rfl) ?_
    refine k_get hC hK hP iX4 0 6 wf_X4_44 rfl (by decide) rfl rfl dX4_lay_38 ?_
    refine lv_iload_n hx hb dX4_lay_41 rfl (lv_at hl 1 rfl) ?_
    refine t_ialdX hC hK hP 5 rfl (by decide) (by decide) hT_g_se_most dX4_lay_42 (fun z9 tz9 ex_42 => ?_)
    refine k_put hC hK hP hD hS iX4 tyX4_ok nmX4 0 9 wf_X4_54 rfl (by decide) rfl rfl rfl rfl (Nat.le_of_ble_eq_true rfl) dX4_lay_43 (fun H locs hP hD hS => ?_)
    have hP : va_P G cl [(a0, .inr (4, [.ref a1, .ref a2, .ref a3, .ref a4, .ref a5, .ref a6, .ref a7, .int v_se_7, .int z8, .int z9, .int v_se_10])), (a2, .inr (0, [.ref a8, .int v_fo_1, .int v_fo_2, .long w_fo_3, .int v_fo_4, .int v_fo_5, .long w_fo_6])), (a9, .inl (cI, 6, .inl g_V_off)), (a1, .inr (7, [.int v_V_0, .int v_V_1, .int v_V_2, .ref a10, .ref a11, .int v_V_5, .ref a12, .ref a13, .ref a14, .ref a9, .ref a15, .ref a16, .ref a17, .ref a18, .ref a19])), (a6, .inl (cI, 6, .inl g_se_least)), (a7, .inl (cI, 6, .inl g_se_most)), (a8, .inl (cJ, (fl g), .inr (.inl g_fo_rows))), (a4, .inl (cI, 7, .inl g_se_firstOf)), (a3, .inr (8, [.ref a20, .ref a21, .ref a22, .ref a23, .ref a24, .ref a25, .ref a26, .int v_cn_7])), (a20, .inl (cI, 46, .inl g_cn_left)), (a21, .inl (cI, 46, .inl g_cn_right)), (a22, .inl (cI, 46, .inl g_cn_year)), (a5, .inl (cI, 6, .inl g_se_weight)), (a15, .inl (cI, 6, .inl g_V_worn)), (a24, .inl (cI, 46, .inl g_cn_how))] H := hP
    have hD : va_D A [(a0, .inr (4, [.ref a1, .ref a2, .ref a3, .ref a4, .ref a5, .ref a6, .ref a7, .int v_se_7, .int z8, .int z9, .int v_se_10])), (a2, .inr (0, [.ref a8, .int v_fo_1, .int v_fo_2, .long w_fo_3, .int v_fo_4, .int v_fo_5, .long w_fo_6])), (a9, .inl (cI, 6, .inl g_V_off)), (a1, .inr (7, [.int v_V_0, .int v_V_1, .int v_V_2, .ref a10, .ref a11, .int v_V_5, .ref a12, .ref a13, .ref a14, .ref a9, .ref a15, .ref a16, .ref a17, .ref a18, .ref a19])), (a6, .inl (cI, 6, .inl g_se_least)), (a7, .inl (cI, 6, .inl g_se_most)), (a8, .inl (cJ, (fl g), .inr (.inl g_fo_rows))), (a4, .inl (cI, 7, .inl g_se_firstOf)), (a3, .inr (8, [.ref a20, .ref a21, .ref a22, .ref a23, .ref a24, .ref a25, .ref a26, .int v_cn_7])), (a20, .inl (cI, 46, .inl g_cn_left)), (a21, .inl (cI, 46, .inl g_cn_right)), (a22, .inl (cI, 46, .inl g_cn_year)), (a5, .inl (cI, 6, .inl g_se_weight)), (a15, .inl (cI, 6, .inl g_V_worn)), (a24, .inl (cI, 46, .inl g_cn_how))] := hD
    refine lv_aload_n hx hb dX4_lay_46 rfl (lv_at hl 0 rfl) ?_
    refine k_get hC hK hP iX4 0 3 wf_X4_34 rfl (by decide) rfl rfl dX4_lay_47 ?_
    refine lv_iload_n hx hb dX4_lay_50 rfl (lv_at hl 1 rfl) ?_
    refine t_ialdX hC hK hP 7 rfl (by decide) (by decide) hT_g_se_firstOf dX4_lay_51 (fun z10 tz10 ex_51 => ?_)
    refine lv_istore (lv' := [(4, .int z10), (0, .ref a0), (1, .int 3), (2, .long b2)]) hx hb dX4_lay_52 hl (by decide) rfl (fun ls hl => ?_)
    have L_54 : ∀ (n : Nat) (x11 : Int32) (h12 : Int32) (h13 : Int32) (H : Heap) (locs : List Loc) (ls : Array Slot), (0 ≤ x11.toInt ∧ x11.toInt ≤ 46 ∧ 0 ≤ h12.toInt ∧ h13.toInt ≤ 2147483646) → 46 - x11.toInt < (n : Int) → (NR (gI g_se_least 3) (gI g_se_most 3) (h12 : Int32).toInt (h13 : Int32).toInt) → va_P G cl [(a0, .inr (4, [.ref a1, .ref a2, .ref a3, .ref a4, .ref a5, .ref a6, .ref a7, .int v_se_7, .int h12, .int h13, .int v_se_10])), (a2, .inr (0, [.ref a8, .int v_fo_1, .int v_fo_2, .long w_fo_3, .int v_fo_4, .int v_fo_5, .long w_fo_6])), (a9, .inl (cI, 6, .inl g_V_off)), (a1, .inr (7, [.int v_V_0, .int v_V_1, .int v_V_2, .ref a10, .ref a11, .int v_V_5, .ref a12, .ref a13, .ref a14, .ref a9, .ref a15, .ref a16, .ref a17, .ref a18, .ref a19])), (a6, .inl (cI, 6, .inl g_se_least)), (a7, .inl (cI, 6, .inl g_se_most)), (a8, .inl (cJ, (fl g), .inr (.inl g_fo_rows))), (a4, .inl (cI, 7, .inl g_se_firstOf)), (a3, .inr (8, [.ref a20, .ref a21, .ref a22, .ref a23, .ref a24, .ref a25, .ref a26, .int v_cn_7])), (a20, .inl (cI, 46, .inl g_cn_left)), (a21, .inl (cI, 46, .inl g_cn_right)), (a22, .inl (cI, 46, .inl g_cn_year)), (a5, .inl (cI, 6, .inl g_se_weight)), (a15, .inl (cI, 6, .inl g_V_worn)), (a24, .inl (cI, 46, .inl g_cn_how))] H → va_D A [(a0, .inr (4, [.ref a1, .ref a2, .ref a3, .ref a4, .ref a5, .ref a6, .ref a7, .int v_se_7, .int h12, .int h13, .int v_se_10])), (a2, .inr (0, [.ref a8, .int v_fo_1, .int v_fo_2, .long w_fo_3, .int v_fo_4, .int v_fo_5, .long w_fo_6])), (a9, .inl (cI, 6, .inl g_V_off)), (a1, .inr (7, [.int v_V_0, .int v_V_1, .int v_V_2, .ref a10, .ref a11, .int v_V_5, .ref a12, .ref a13, .ref a14, .ref a9, .ref a15, .ref a16, .ref a17, .ref a18, .ref a19])), (a6, .inl (cI, 6, .inl g_se_least)), (a7, .inl (cI, 6, .inl g_se_most)), (a8, .inl (cJ, (fl g), .inr (.inl g_fo_rows))), (a4, .inl (cI, 7, .inl g_se_firstOf)), (a3, .inr (8, [.ref a20, .ref a21, .ref a22, .ref a23, .ref a24, .ref a25, .ref a26, .int v_cn_7])), (a20, .inl (cI, 46, .inl g_cn_left)), (a21, .inl (cI, 46, .inl g_cn_right)), (a22, .inl (cI, 46, .inl g_cn_year)), (a5, .inl (cI, 6, .inl g_se_weight)), (a15, .inl (cI, 6, .inl g_V_worn)), (a24, .inl (cI, 46, .inl g_cn_how))] → va_S A s.heap H locs → lv_has ls 6 [(0, .ref a0), (1, .int 3), (2, .long b2), (4, .int x11)] → W p l e ({ frames := 7, cells := 11 - g, slots := fs 11 - fs g, locals := 197 } : Room) s m args below meth c H locs (g - g) (fs g - fs g) Qm (F0 m 54 ls []) := by
      intro n
      induction n with
      | zero => intro x11 h12 h13 H locs ls hv hm; omega
      | succ n ih =>
        intro x11 h12 h13 H locs ls hv hm hNR hP hD hS hl
        refine lv_iload hx hb dX4_lay_54 (lv_at hl 3 rfl) ?_
        refine lv_aload_n hx hb dX4_lay_56 rfl (lv_at hl 0 rfl) ?_
        refine k_get hC hK hP iX4 0 3 wf_X4_34 rfl (by decide) rfl rfl dX4_lay_57 ?_
        refine lv_iload_n hx hb dX4_lay_60 rfl (lv_at hl 1 rfl) ?_
        refine lv_iconst (v := 1) hx hb dX4_lay_61 (by decide) ?_
        refine lv_iadd hx hb dX4_lay_62 ?_
        refine k_i 4 (by decide +kernel) ?_
        refine t_ialdX hC hK hP 7 rfl (by decide) (by decide) hT_g_se_firstOf dX4_lay_63 (fun z15 tz15 ex_63 => ?_)
        refine lv_icmp_ge (tgt := 80) hx hb dX4_lay_64 (by decide) (fun c16 => ?_) (fun c16 => ?_)
        · have dc16 : z15.toInt ≤ x11.toInt := (fa_le _ _).mp c16
          refine lv_aload_n hx hb dX4_lay_80 rfl (lv_at hl 0 rfl) ?_
          refine k_get hC hK hP iX4 0 9 wf_X4_54 rfl (by decide) rfl rfl dX4_lay_81 ?_
          refine lv_istore (lv' := [(4, .int h13), (0, .ref a0), (1, .int 3), (2, .long b2)]) hx hb dX4_lay_84 hl (by decide) rfl (fun ls hl => ?_)
          obtain ⟨Bs, hBs⟩ : ∃ q : Int, q = (v_fo_1 : Int32).toInt + KKf g_V_off (v_V_5 : Int32).toInt 3 := ⟨_, rfl⟩
          have hNR2 := hNR
          unfold NR at hNR2
          refine lv_aload_n hx hb dX4_lay_86 rfl (lv_at hl 1 rfl) ?_
          refine k_get hC hK hP iX4 0 8 wf_X4_51 rfl (by decide) rfl rfl dX4_lay_87 ?_
          refine lv_istore (lv' := [(5, .int h12), (4, .int h13), (0, .ref a0), (1, .int 3), (2, .long b2)]) hx hb dX4_lay_90 hl (by decide) rfl (fun ls hl => ?_)
          have L_92 : ∀ (n : Nat) (x17 : Int32) (g18 : Nat) (ad19 : Nat) (f20 : Nat → Int64) (h21 : Int32) (f22 : Nat → Int32) (h23 : Int32) (h24 : Int32) (H : Heap) (locs : List Loc) (ls : Array Slot), (0 ≤ x17.toInt ∧ g ≤ g18 ∧ g18 ≤ 11 ∧ 0 ≤ h21.toInt ∧ h21.toInt ≤ 300000 ∧ 0 ≤ h23.toInt ∧ h24.toInt ≤ 2147483646 ∧ (h21.toInt ≤ ((fl g18 : Nat) : Int))) → 2147483647 - x17.toInt < (n : Int) → (LK (h21 : Int32).toInt (x17 : Int32).toInt (h13 : Int32).toInt (KKf g_V_off (v_V_5 : Int32).toInt 2) Bs) → va_P G cl [(a0, .inr (4, [.ref a1, .ref a2, .ref a3, .ref a4, .ref a5, .ref a6, .ref a7, .int v_se_7, .int h23, .int h24, .int v_se_10])), (a2, .inr (0, [.ref ad19, .int h21, .int v_fo_2, .long w_fo_3, .int v_fo_4, .int v_fo_5, .long w_fo_6])), (a9, .inl (cI, 6, .inl g_V_off)), (a1, .inr (7, [.int v_V_0, .int v_V_1, .int v_V_2, .ref a10, .ref a11, .int v_V_5, .ref a12, .ref a13, .ref a14, .ref a9, .ref a15, .ref a16, .ref a17, .ref a18, .ref a19])), (a6, .inl (cI, 6, .inl g_se_least)), (a7, .inl (cI, 6, .inl g_se_most)), (ad19, .inl (cJ, (fl g18), .inr (.inl f20))), (a4, .inl (cI, 7, .inl g_se_firstOf)), (a3, .inr (8, [.ref a20, .ref a21, .ref a22, .ref a23, .ref a24, .ref a25, .ref a26, .int v_cn_7])), (a20, .inl (cI, 46, .inl g_cn_left)), (a21, .inl (cI, 46, .inl g_cn_right)), (a22, .inl (cI, 46, .inl g_cn_year)), (a5, .inl (cI, 6, .inl f22)), (a15, .inl (cI, 6, .inl g_V_worn)), (a24, .inl (cI, 46, .inl g_cn_how))] H → va_D A [(a0, .inr (4, [.ref a1, .ref a2, .ref a3, .ref a4, .ref a5, .ref a6, .ref a7, .int v_se_7, .int h23, .int h24, .int v_se_10])), (a2, .inr (0, [.ref ad19, .int h21, .int v_fo_2, .long w_fo_3, .int v_fo_4, .int v_fo_5, .long w_fo_6])), (a9, .inl (cI, 6, .inl g_V_off)), (a1, .inr (7, [.int v_V_0, .int v_V_1, .int v_V_2, .ref a10, .ref a11, .int v_V_5, .ref a12, .ref a13, .ref a14, .ref a9, .ref a15, .ref a16, .ref a17, .ref a18, .ref a19])), (a6, .inl (cI, 6, .inl g_se_least)), (a7, .inl (cI, 6, .inl g_se_most)), (ad19, .inl (cJ, (fl g18), .inr (.inl f20))), (a4, .inl (cI, 7, .inl g_se_firstOf)), (a3, .inr (8, [.ref a20, .ref a21, .ref a22, .ref a23, .ref a24, .ref a25, .ref a26, .int v_cn_7])), (a20, .inl (cI, 46, .inl g_cn_left)), (a21, .inl (cI, 46, .inl g_cn_right)), (a22, .inl (cI, 46, .inl g_cn_year)), (a5, .inl (cI, 6, .inl f22)), (a15, .inl (cI, 6, .inl g_V_worn)), (a24, .inl (cI, 46, .inl g_cn_how))] → va_S A s.heap H locs → lv_has ls 6 [(0, .ref a0), (1, .int 3), (2, .long b2), (4, .int h13), (5, .int x17)] → W p l e ({ frames := 7, cells := 11 - g, slots := fs 11 - fs g, locals := 197 } : Room) s m args below meth c H locs (g18 - g) (fs g18 - fs g) Qm (F0 m 92 ls []) := by
            intro n
            induction n with
            | zero => intro x17 g18 ad19 f20 h21 f22 h23 h24 H locs ls hv hm; have p_ := i_lo x17; have q_ := i_hi x17; omega
            | succ n ih_92 =>
              intro x17 g18 ad19 f20 h21 f22 h23 h24 H locs ls hv hm hLK hP hD hS hl
              have p_ := i_lo x17; have q_ := i_hi x17
              refine lv_iload hx hb dX4_lay_92 (lv_at hl 4 rfl) ?_
              refine lv_iload hx hb dX4_lay_94 (lv_at hl 3 rfl) ?_
              refine lv_icmp_gt (tgt := 127) hx hb dX4_lay_96 (by decide) (fun c25 => ?_) (fun c25 => ?_)
              · have dc25 : h13.toInt < x17.toInt := (fa_lt _ _).mp c25; have lbc25_0 := i_lo h13; have ubc25_1 := i_hi x17
                refine W.know (fun hgr => ?_)
                rw [← hQm]
                exact k_vretG hC hr hlk hK hP hD hS (h23, h24, h21, f20, f22, g18, ad19) [0, 1, 2, 3, 4, 5, 6, 7, 8, 9, 10, 11, 12, 13, 14] rfl (by decide +kernel) ⟨(show 0 ≤ h23.toInt ∧ h24.toInt ≤ 2147483646 ∧ 0 ≤ h21.toInt ∧ h21.toInt ≤ 300000 ∧ g ≤ g18 ∧ g18 ≤ 11 ∧ h21.toInt ≤ ((fl g18 : Nat) : Int) from by omega), (show (h21 : Int32).toInt ≤ (v_fo_1 : Int32).toInt + KKf g_V_off (v_V_5 : Int32).toInt 3 from by first | omega | (have q_ := hLK.1; omega))⟩ hgr (gr_lc (by omega) (by omega)) (gr_ls (by omega) (by omega)) dX4_lay_127
              · have dc25 : x17.toInt ≤ h13.toInt := fa_nlt c25; have lbc25_0 := i_lo h13; have ubc25_1 := i_hi x17
                refine lv_aload_n hx hb dX4_lay_99 rfl (lv_at hl 0 rfl) ?_
                refine k_get hC hK hP iX4 0 4 wf_X4_38 rfl (by decide) rfl rfl dX4_lay_100 ?_
                refine lv_iload_n hx hb dX4_lay_103 rfl (lv_at hl 1 rfl) ?_
                refine lv_iload hx hb dX4_lay_104 (lv_at hl 4 rfl) ?_
                refine t_iastX hC hK hP hD hS 12 rfl (by decide) (by decide) (TA.all _) ⟨i_lo _, i_hi _⟩ dX4_lay_106 (fun f26 H locs up_106 hT_f26 hP hD hS => ?_)
                have hP : va_P G cl [(a0, .inr (4, [.ref a1, .ref a2, .ref a3, .ref a4, .ref a5, .ref a6, .ref a7, .int v_se_7, .int h23, .int h24, .int v_se_10])), (a2, .inr (0, [.ref ad19, .int h21, .int v_fo_2, .long w_fo_3, .int v_fo_4, .int v_fo_5, .long w_fo_6])), (a9, .inl (cI, 6, .inl g_V_off)), (a1, .inr (7, [.int v_V_0, .int v_V_1, .int v_V_2, .ref a10, .ref a11, .int v_V_5, .ref a12, .ref a13, .ref a14, .ref a9, .ref a15, .ref a16, .ref a17, .ref a18, .ref a19])), (a6, .inl (cI, 6, .inl g_se_least)), (a7, .inl (cI, 6, .inl g_se_most)), (ad19, .inl (cJ, (fl g18), .inr (.inl f20))), (a4, .inl (cI, 7, .inl g_se_firstOf)), (a3, .inr (8, [.ref a20, .ref a21, .ref a22, .ref a23, .ref a24, .ref a25, .ref a26, .int v_cn_7])), (a20, .inl (cI, 46, .inl g_cn_left)), (a21, .inl (cI, 46, .inl g_cn_right)), (a22, .inl (cI, 46, .inl g_cn_year)), (a5, .inl (cI, 6, .inl f26)), (a15, .inl (cI, 6, .inl g_V_worn)), (a24, .inl (cI, 46, .inl g_cn_how))] H := hP
                have hD : va_D A [(a0, .inr (4, [.ref a1, .ref a2, .ref a3, .ref a4, .ref a5, .ref a6, .ref a7, .int v_se_7, .int h23, .int h24, .int v_se_10])), (a2, .inr (0, [.ref ad19, .int h21, .int v_fo_2, .long w_fo_3, .int v_fo_4, .int v_fo_5, .long w_fo_6])), (a9, .inl (cI, 6, .inl g_V_off)), (a1, .inr (7, [.int v_V_0, .int v_V_1, .int v_V_2, .ref a10, .ref a11, .int v_V_5, .ref a12, .ref a13, .ref a14, .ref a9, .ref a15, .ref a16, .ref a17, .ref a18, .ref a19])), (a6, .inl (cI, 6, .inl g_se_least)), (a7, .inl (cI, 6, .inl g_se_most)), (ad19, .inl (cJ, (fl g18), .inr (.inl f20))), (a4, .inl (cI, 7, .inl g_se_firstOf)), (a3, .inr (8, [.ref a20, .ref a21, .ref a22, .ref a23, .ref a24, .ref a25, .ref a26, .int v_cn_7])), (a20, .inl (cI, 46, .inl g_cn_left)), (a21, .inl (cI, 46, .inl g_cn_right)), (a22, .inl (cI, 46, .inl g_cn_year)), (a5, .inl (cI, 6, .inl f26)), (a15, .inl (cI, 6, .inl g_V_worn)), (a24, .inl (cI, 46, .inl g_cn_how))] := hD
                refine lv_aload_n hx hb dX4_lay_107 rfl (lv_at hl 0 rfl) ?_
                refine lv_iload_n hx hb dX4_lay_108 rfl (lv_at hl 1 rfl) ?_
                refine lv_iconst (v := 1) hx hb dX4_lay_109 (by decide) ?_
                refine lv_iadd hx hb dX4_lay_110 ?_
                refine k_i 4 (by decide +kernel) ?_
                refine lv_lload_n hx hb dX4_lay_111 rfl (lv_at hl 2 rfl) ?_
                refine lv_iload_n hx hb dX4_lay_112 rfl (lv_at hl 1 rfl) ?_
                refine lv_iload hx hb dX4_lay_113 (lv_at hl 4 rfl) ?_
                have l_l29 : (3 : Int32).toInt = 3 := rfl
                refine k_cl (wr := [(a0, .inr (4, [.ref a1, .ref a2, .ref a3, .ref a4, .ref a5, .ref a6, .ref a7, .int v_se_7, .int h23, .int h24, .int v_se_10])), (a2, .inr (0, [.ref ad19, .int h21, .int v_fo_2, .long w_fo_3, .int v_fo_4, .int v_fo_5, .long w_fo_6])), (a9, .inl (cI, 6, .inl g_V_off)), (a1, .inr (7, [.int v_V_0, .int v_V_1, .int v_V_2, .ref a10, .ref a11, .int v_V_5, .ref a12, .ref a13, .ref a14, .ref a9, .ref a15, .ref a16, .ref a17, .ref a18, .ref a19])), (a6, .inl (cI, 6, .inl g_se_least)), (a7, .inl (cI, 6, .inl g_se_most)), (ad19, .inl (cJ, (fl g18), .inr (.inl f20))), (a4, .inl (cI, 7, .inl g_se_firstOf)), (a3, .inr (8, [.ref a20, .ref a21, .ref a22, .ref a23, .ref a24, .ref a25, .ref a26, .int v_cn_7])), (a20, .inl (cI, 46, .inl g_cn_left)), (a21, .inl (cI, 46, .inl g_cn_right)), (a22, .inl (cI, 46, .inl g_cn_year)), (a5, .inl (cI, 6, .inl f26)), (a15, .inl (cI, 6, .inl g_V_worn)), (a24, .inl (cI, 46, .inl g_cn_how))]) (k_rS hC hN hZ hS hA hK hP hD (c151_X0_withWeight l G cI cJ cB cZ b2 3 x17) [] rfl (by decide +kernel) mi_X0_withWeight st_X0_withWeight wm_X4_129 hl.1 rfl rfl (Nat.le_of_ble_eq_true rfl) ⟨(Nat.le_of_ble_eq_true rfl), (Nat.le_of_ble_eq_true rfl)⟩ dX4_lay_115 (gr_r0 (by omega) (by omega))) hP hD hS hA [] [0, 1, 2, 3, 4, 5, 6, 7, 8, 9, 10, 11, 12, 13, 14] rfl rfl (by decide +kernel) (by decide +kernel) (fun r28 u28 H locs hp hP hD hS => ?_)
                have hp : (True) := hp
                have hP : va_P G cl [(a0, .inr (4, [.ref a1, .ref a2, .ref a3, .ref a4, .ref a5, .ref a6, .ref a7, .int v_se_7, .int h23, .int h24, .int v_se_10])), (a2, .inr (0, [.ref ad19, .int h21, .int v_fo_2, .long w_fo_3, .int v_fo_4, .int v_fo_5, .long w_fo_6])), (a9, .inl (cI, 6, .inl g_V_off)), (a1, .inr (7, [.int v_V_0, .int v_V_1, .int v_V_2, .ref a10, .ref a11, .int v_V_5, .ref a12, .ref a13, .ref a14, .ref a9, .ref a15, .ref a16, .ref a17, .ref a18, .ref a19])), (a6, .inl (cI, 6, .inl g_se_least)), (a7, .inl (cI, 6, .inl g_se_most)), (ad19, .inl (cJ, (fl g18), .inr (.inl f20))), (a4, .inl (cI, 7, .inl g_se_firstOf)), (a3, .inr (8, [.ref a20, .ref a21, .ref a22, .ref a23, .ref a24, .ref a25, .ref a26, .int v_cn_7])), (a20, .inl (cI, 46, .inl g_cn_left)), (a21, .inl (cI, 46, .inl g_cn_right)), (a22, .inl (cI, 46, .inl g_cn_year)), (a5, .inl (cI, 6, .inl f26)), (a15, .inl (cI, 6, .inl g_V_worn)), (a24, .inl (cI, 46, .inl g_cn_how))] H := hP
                have hD : va_D A [(a0, .inr (4, [.ref a1, .ref a2, .ref a3, .ref a4, .ref a5, .ref a6, .ref a7, .int v_se_7, .int h23, .int h24, .int v_se_10])), (a2, .inr (0, [.ref ad19, .int h21, .int v_fo_2, .long w_fo_3, .int v_fo_4, .int v_fo_5, .long w_fo_6])), (a9, .inl (cI, 6, .inl g_V_off)), (a1, .inr (7, [.int v_V_0, .int v_V_1, .int v_V_2, .ref a10, .ref a11, .int v_V_5, .ref a12, .ref a13, .ref a14, .ref a9, .ref a15, .ref a16, .ref a17, .ref a18, .ref a19])), (a6, .inl (cI, 6, .inl g_se_least)), (a7, .inl (cI, 6, .inl g_se_most)), (ad19, .inl (cJ, (fl g18), .inr (.inl f20))), (a4, .inl (cI, 7, .inl g_se_firstOf)), (a3, .inr (8, [.ref a20, .ref a21, .ref a22, .ref a23, .ref a24, .ref a25, .ref a26, .int v_cn_7])), (a20, .inl (cI, 46, .inl g_cn_left)), (a21, .inl (cI, 46, .inl g_cn_right)), (a22, .inl (cI, 46, .inl g_cn_year)), (a5, .inl (cI, 6, .inl f26)), (a15, .inl (cI, 6, .inl g_V_worn)), (a24, .inl (cI, 46, .inl g_cn_how))] := hD
                have hq28 := hp
                have lu_ := LK.use hLK (by omega) (by omega)
                refine W.know (fun hgr => ?_)
                refine k_cvG (wr := []) (k_rVG hC hN hZ hS hA hK hP hD (c154_X4_lay l G cI cJ cB cZ a0 a1 a2 a3 a4 a5 a6 a7 ad19 a9 a10 a11 a12 a13 a14 a15 a16 a17 a18 a19 a20 a21 a22 a23 a24 a25 a26 g18 r28 v_se_7 h23 h24 v_se_10 h21 v_fo_2 w_fo_3 v_fo_4 v_fo_5 w_fo_6 v_V_0 v_V_1 v_V_2 v_V_5 v_cn_7 g_V_off g_se_least g_se_most f20 g_se_firstOf g_cn_left g_cn_right g_cn_year f26 g_V_worn g_cn_how (by omega) (by omega) (by omega) (by omega) hv_4 hv_5 hv_6 hv_7 hv_8 hv_9 hv_10 hv_11 hv_12 hv_13 hv_14 hv_15 (by omega) (by omega) hT_g_V_off hT_g_se_least hT_g_se_most hT_g_se_firstOf (by omega) (by assumption)) [0, 1, 2, 3, 4, 5, 6, 7, 8, 9, 10, 11, 12, 13, 14] rfl (by decide +kernel) mi_X4_lay in_X4_lay se_X4_lay wm_X4_105 4 0 rfl rfl rfl hl.1 rfl rfl (Nat.le_of_ble_eq_true rfl) ⟨(Nat.le_of_ble_eq_true rfl), (Nat.le_of_ble_eq_true rfl)⟩ dX4_lay_118 (gr_rG (by omega) (by omega))) hP hD hS hA [0, 1, 2, 3, 4, 5, 6, 7, 8, 9, 10, 11, 12, 13, 14] [] rfl rfl (by decide +kernel) (by decide +kernel) (fun u30 H locs hp hP hD hS hgn => ?_)
                obtain ⟨h31, h32, h33, f34, f35, g36, ad37⟩ := u30
                obtain ⟨hp, hsz_118⟩ : (0 ≤ h31.toInt ∧ h32.toInt ≤ 2147483646 ∧ 0 ≤ h33.toInt ∧ h33.toInt ≤ 300000 ∧ g18 ≤ g36 ∧ g36 ≤ 11 ∧ h33.toInt ≤ ((fl g36 : Nat) : Int)) ∧ ((h33 : Int32).toInt ≤ (h21 : Int32).toInt + KKf g_V_off (v_V_5 : Int32).toInt 2) := hp
                have hP : va_P G cl [(a0, .inr (4, [.ref a1, .ref a2, .ref a3, .ref a4, .ref a5, .ref a6, .ref a7, .int v_se_7, .int h31, .int h32, .int v_se_10])), (a2, .inr (0, [.ref ad37, .int h33, .int v_fo_2, .long w_fo_3, .int v_fo_4, .int v_fo_5, .long w_fo_6])), (a9, .inl (cI, 6, .inl g_V_off)), (a1, .inr (7, [.int v_V_0, .int v_V_1, .int v_V_2, .ref a10, .ref a11, .int v_V_5, .ref a12, .ref a13, .ref a14, .ref a9, .ref a15, .ref a16, .ref a17, .ref a18, .ref a19])), (a6, .inl (cI, 6, .inl g_se_least)), (a7, .inl (cI, 6, .inl g_se_most)), (ad37, .inl (cJ, (fl g36), .inr (.inl f34))), (a4, .inl (cI, 7, .inl g_se_firstOf)), (a3, .inr (8, [.ref a20, .ref a21, .ref a22, .ref a23, .ref a24, .ref a25, .ref a26, .int v_cn_7])), (a20, .inl (cI, 46, .inl g_cn_left)), (a21, .inl (cI, 46, .inl g_cn_right)), (a22, .inl (cI, 46, .inl g_cn_year)), (a5, .inl (cI, 6, .inl f35)), (a15, .inl (cI, 6, .inl g_V_worn)), (a24, .inl (cI, 46, .inl g_cn_how))] H := hP
                have hD : va_D A [(a0, .inr (4, [.ref a1, .ref a2, .ref a3, .ref a4, .ref a5, .ref a6, .ref a7, .int v_se_7, .int h31, .int h32, .int v_se_10])), (a2, .inr (0, [.ref ad37, .int h33, .int v_fo_2, .long w_fo_3, .int v_fo_4, .int v_fo_5, .long w_fo_6])), (a9, .inl (cI, 6, .inl g_V_off)), (a1, .inr (7, [.int v_V_0, .int v_V_1, .int v_V_2, .ref a10, .ref a11, .int v_V_5, .ref a12, .ref a13, .ref a14, .ref a9, .ref a15, .ref a16, .ref a17, .ref a18, .ref a19])), (a6, .inl (cI, 6, .inl g_se_least)), (a7, .inl (cI, 6, .inl g_se_most)), (ad37, .inl (cJ, (fl g36), .inr (.inl f34))), (a4, .inl (cI, 7, .inl g_se_firstOf)), (a3, .inr (8, [.ref a20, .ref a21, .ref a22, .ref a23, .ref a24, .ref a25, .ref a26, .int v_cn_7])), (a20, .inl (cI, 46, .inl g_cn_left)), (a21, .inl (cI, 46, .inl g_cn_right)), (a22, .inl (cI, 46, .inl g_cn_year)), (a5, .inl (cI, 6, .inl f35)), (a15, .inl (cI, 6, .inl g_V_worn)), (a24, .inl (cI, 46, .inl g_cn_how))] := hD
                have hq30 := hp
                refine W.tight (k := g36 - g) (n := fs g36 - fs g) (GR.tr3 hgr hgn (by omega) (by omega)) ?_
                obtain ⟨z38, ez38⟩ : ∃ q : Int32, q = x17 + Int32.ofInt 1 := ⟨_, rfl⟩
                have tz38 : z38.toInt = x17.toInt + 1 := by rw [ez38]; exact add_i (y := 1) (by have p_ := i_lo x17; show _ ≤ _ + (1 : Int); omega) (by have q_ := i_hi x17; show _ + (1 : Int) ≤ _; omega)
                refine lv_iinc (v := z38) (lv' := [(5, .int z38), (0, .ref a0), (1, .int 3), (2, .long b2), (4, .int h13)]) hx hb dX4_lay_121 hl (k := 4) rfl ez38.symm (by decide) rfl (fun ls hl => ?_)
                refine lv_goto (tgt := 92) hx hb dX4_lay_124 (by decide) ?_
                exact ih_92  z38 g36 ad37 f34 h33 f35 h31 h32 H locs ls (by omega) (by omega) (by exact LK.step hLK (by omega) hsz_118 (by omega) (by omega)) (hP.subm [0, 1, 2, 3, 4, 5, 6, 7, 8, 9, 10, 11, 12, 13, 14] rfl) (hD.sub [0, 1, 2, 3, 4, 5, 6, 7, 8, 9, 10, 11, 12, 13, 14] (by decide +kernel) rfl) hS (lv_sub hl [1, 2, 3, 4, 0] rfl)
          exact L_92 2147483648 h12 g a8 g_fo_rows v_fo_1 g_se_weight h12 h13 H locs ls (by omega) (by omega) (by exact LK.start (D := 2 * gI g_V_off 3 + 1) (by omega) (fun _ => by omega) (by omega) (by omega)) (hP.subm [0, 1, 2, 3, 4, 5, 6, 7, 8, 9, 10, 11, 12, 13, 14] rfl) (hD.sub [0, 1, 2, 3, 4, 5, 6, 7, 8, 9, 10, 11, 12, 13, 14] (by decide +kernel) rfl) hS (lv_sub hl [2, 3, 4, 1, 0] rfl)
        · have dc16 : x11.toInt < z15.toInt := fa_nle c16
          refine lv_aload_n hx hb dX4_lay_67 rfl (lv_at hl 0 rfl) ?_
          refine lv_iload hx hb dX4_lay_68 (lv_at hl 3 rfl) ?_
          refine lv_iload_n hx hb dX4_lay_70 rfl (lv_at hl 1 rfl) ?_
          have l_l40 : (3 : Int32).toInt = 3 := rfl
          refine k_cv (wr := [(a2, .inr (0, [.ref a8, .int v_fo_1, .int v_fo_2, .long w_fo_3, .int v_fo_4, .int v_fo_5, .long w_fo_6])), (a9, .inl (cI, 6, .inl g_V_off)), (a6, .inl (cI, 6, .inl g_se_least)), (a7, .inl (cI, 6, .inl g_se_most)), (a8, .inl (cJ, (fl g), .inr (.inl g_fo_rows))), (a4, .inl (cI, 7, .inl g_se_firstOf))]) (k_rV hC hN hZ hS hA hK hP hD (c150_X4_narrow l G cI cJ cB cZ a0 a1 a2 a3 a4 a5 a6 a7 a20 a21 a22 a23 a24 a25 a26 a10 a11 a12 a13 a14 a9 a15 a16 a17 a18 a19 x11 3 v_se_7 h12 h13 v_se_10 v_cn_7 v_V_0 v_V_1 v_V_2 v_V_5 g_cn_left g_cn_right g_cn_year g_se_weight g_V_worn g_cn_how (by omega) (by omega) (by omega) (by omega) (by omega) (by omega) hv_14 hv_15 hv_8 hv_9 hv_10 hv_11 hv_12 hv_13) [0, 8, 9, 10, 11, 3, 12, 13, 14] rfl (by decide +kernel) mi_X4_narrow in_X4_narrow se_X4_narrow wm_X4_126 4 0 rfl rfl rfl hl.1 rfl rfl (Nat.le_of_ble_eq_true rfl) ⟨(Nat.le_of_ble_eq_true rfl), (Nat.le_of_ble_eq_true rfl)⟩ dX4_lay_71 (gr_r0 (by omega) (by omega))) hP hD hS hA [0, 8, 9, 10, 11, 3, 12, 13, 14] [1, 2, 4, 5, 6, 7] rfl rfl (by decide +kernel) (by decide +kernel) (fun u39 H locs hp hP hD hS => ?_)
          obtain ⟨h41, h42⟩ := u39
          obtain ⟨hp, hnr_71⟩ : (0 ≤ h41.toInt ∧ h42.toInt ≤ 2147483646) ∧ (NR (h12 : Int32).toInt (h13 : Int32).toInt (h41 : Int32).toInt (h42 : Int32).toInt) := hp
          have hP : va_P G cl [(a2, .inr (0, [.ref a8, .int v_fo_1, .int v_fo_2, .long w_fo_3, .int v_fo_4, .int v_fo_5, .long w_fo_6])), (a9, .inl (cI, 6, .inl g_V_off)), (a6, .inl (cI, 6, .inl g_se_least)), (a7, .inl (cI, 6, .inl g_se_most)), (a8, .inl (cJ, (fl g), .inr (.inl g_fo_rows))), (a4, .inl (cI, 7, .inl g_se_firstOf)), (a0, .inr (4, [.ref a1, .ref a2, .ref a3, .ref a4, .ref a5, .ref a6, .ref a7, .int v_se_7, .int h41, .int h42, .int v_se_10])), (a3, .inr (8, [.ref a20, .ref a21, .ref a22, .ref a23, .ref a24, .ref a25, .ref a26, .int v_cn_7])), (a20, .inl (cI, 46, .inl g_cn_left)), (a21, .inl (cI, 46, .inl g_cn_right)), (a22, .inl (cI, 46, .inl g_cn_year)), (a1, .inr (7, [.int v_V_0, .int v_V_1, .int v_V_2, .ref a10, .ref a11, .int v_V_5, .ref a12, .ref a13, .ref a14, .ref a9, .ref a15, .ref a16, .ref a17, .ref a18, .ref a19])), (a5, .inl (cI, 6, .inl g_se_weight)), (a15, .inl (cI, 6, .inl g_V_worn)), (a24, .inl (cI, 46, .inl g_cn_how))] H := hP
          have hD : va_D A [(a2, .inr (0, [.ref a8, .int v_fo_1, .int v_fo_2, .long w_fo_3, .int v_fo_4, .int v_fo_5, .long w_fo_6])), (a9, .inl (cI, 6, .inl g_V_off)), (a6, .inl (cI, 6, .inl g_se_least)), (a7, .inl (cI, 6, .inl g_se_most)), (a8, .inl (cJ, (fl g), .inr (.inl g_fo_rows))), (a4, .inl (cI, 7, .inl g_se_firstOf)), (a0, .inr (4, [.ref a1, .ref a2, .ref a3, .ref a4, .ref a5, .ref a6, .ref a7, .int v_se_7, .int h41, .int h42, .int v_se_10])), (a3, .inr (8, [.ref a20, .ref a21, .ref a22, .ref a23, .ref a24, .ref a25, .ref a26, .int v_cn_7])), (a20, .inl (cI, 46, .inl g_cn_left)), (a21, .inl (cI, 46, .inl g_cn_right)), (a22, .inl (cI, 46, .inl g_cn_year)), (a1, .inr (7, [.int v_V_0, .int v_V_1, .int v_V_2, .ref a10, .ref a11, .int v_V_5, .ref a12, .ref a13, .ref a14, .ref a9, .ref a15, .ref a16, .ref a17, .ref a18, .ref a19])), (a5, .inl (cI, 6, .inl g_se_weight)), (a15, .inl (cI, 6, .inl g_V_worn)), (a24, .inl (cI, 46, .inl g_cn_how))] := hD
          have hq39 := hp
          obtain ⟨z43, ez43⟩ : ∃ q : Int32, q = x11 + Int32.ofInt 1 := ⟨_, rfl⟩
          have tz43 : z43.toInt = x11.toInt + 1 := by rw [ez43]; exact add_i (y := 1) (by have p_ := i_lo x11; show _ ≤ _ + (1 : Int); omega) (by have q_ := i_hi x11; show _ + (1 : Int) ≤ _; omega)
          refine lv_iinc (v := z43) (lv' := [(4, .int z43), (0, .ref a0), (1, .int 3), (2, .long b2)]) hx hb dX4_lay_74 hl (k := 3) rfl ez43.symm (by decide) rfl (fun ls hl => ?_)
          refine lv_goto (tgt := 54) hx hb dX4_lay_77 (by decide) ?_
          exact ih  z43 h41 h42 H locs ls (by omega) (by omega) (by exact NR.tr hNR hnr_71) (hP.subm [6, 0, 1, 11, 2, 3, 4, 5, 7, 8, 9, 10, 12, 13, 14] rfl) (hD.sub [6, 0, 1, 11, 2, 3, 4, 5, 7, 8, 9, 10, 12, 13, 14] (by decide +kernel) rfl) hS (lv_sub hl [1, 2, 3, 0] rfl)
    exact L_54 47 z10 z8 z9 H locs ls (by omega) (by omega) (by rw [← ex_32 3 rfl, ← ex_42 3 rfl]; exact NR.rf) (hP.subm [0, 1, 2, 3, 4, 5, 6, 7, 8, 9, 10, 11, 12, 13, 14] rfl) (hD.sub [0, 1, 2, 3, 4, 5, 6, 7, 8, 9, 10, 11, 12, 13, 14] (by decide +kernel) rfl) hS (lv_sub hl [1, 2, 3, 0] rfl)

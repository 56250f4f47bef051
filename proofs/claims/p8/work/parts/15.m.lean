def sgn (f : Nat → Int32) (size k : Int32) : Int32 := if k.toInt < size.toInt then f k.toNatClampNeg &&& 255 else 0
theorem dX10_feed_0 : decode cX10_feed 0 = .ok (.aload_n 0, 1) := by decide +kernel
theorem dX10_feed_1 : decode cX10_feed 1 = .ok (.getfield 237, 3) := by decide +kernel
set_option maxRecDepth 100000 in
theorem wf_X10_237 : Cond.fieldLink RX10 237 "StoneTrustModel" "taped" "I" ∈ gw := gm (List.mem_of_getElem? (i := 1257) (by decide +kernel)) rfl
theorem dX10_feed_4 : decode cX10_feed 4 = .ok (.bipush 20, 2) := by decide +kernel
theorem dX10_feed_6 : decode cX10_feed 6 = .ok (.iadd, 1) := by decide +kernel
theorem dX10_feed_7 : decode cX10_feed 7 = .ok (.sipush 1300, 3) := by decide +kernel
theorem dX10_feed_10 : decode cX10_feed 10 = .ok (.if_icmp .le 5, 3) := by decide +kernel
theorem dX10_feed_15 : decode cX10_feed 15 = .ok (.iconst 0, 1) := by decide +kernel
theorem dX10_feed_16 : decode cX10_feed 16 = .ok (.istore 6, 2) := by decide +kernel
theorem dX10_feed_18 : decode cX10_feed 18 = .ok (.iload 6, 2) := by decide +kernel
theorem dX10_feed_20 : decode cX10_feed 20 = .ok (.bipush 20, 2) := by decide +kernel
theorem dX10_feed_22 : decode cX10_feed 22 = .ok (.if_icmp .ge 83, 3) := by decide +kernel
theorem dX10_feed_105 : decode cX10_feed 105 = .ok (.aload_n 0, 1) := by decide +kernel
theorem dX10_feed_106 : decode cX10_feed 106 = .ok (.dup, 1) := by decide +kernel
theorem dX10_feed_107 : decode cX10_feed 107 = .ok (.getfield 237, 3) := by decide +kernel
theorem dX10_feed_110 : decode cX10_feed 110 = .ok (.bipush 20, 2) := by decide +kernel
theorem dX10_feed_112 : decode cX10_feed 112 = .ok (.iadd, 1) := by decide +kernel
theorem dX10_feed_113 : decode cX10_feed 113 = .ok (.putfield 237, 3) := by decide +kernel
theorem dX10_feed_116 : decode cX10_feed 116 = .ok (.aload_n 0, 1) := by decide +kernel
theorem dX10_feed_117 : decode cX10_feed 117 = .ok (.getfield 237, 3) := by decide +kernel
theorem dX10_feed_120 : decode cX10_feed 120 = .ok (.ireturn, 1) := by decide +kernel
theorem dX10_feed_25 : decode cX10_feed 25 = .ok (.iload 6, 2) := by decide +kernel
theorem dX10_feed_27 : decode cX10_feed 27 = .ok (.iconst 4, 1) := by decide +kernel
theorem dX10_feed_28 : decode cX10_feed 28 = .ok (.if_icmp .ge 7, 3) := by decide +kernel
theorem dX10_feed_35 : decode cX10_feed 35 = .ok (.iload 6, 2) := by decide +kernel
theorem dX10_feed_37 : decode cX10_feed 37 = .ok (.bipush 8, 2) := by decide +kernel
theorem dX10_feed_39 : decode cX10_feed 39 = .ok (.if_icmp .ge 7, 3) := by decide +kernel
theorem dX10_feed_46 : decode cX10_feed 46 = .ok (.iload 6, 2) := by decide +kernel
theorem dX10_feed_48 : decode cX10_feed 48 = .ok (.bipush 12, 2) := by decide +kernel
theorem dX10_feed_50 : decode cX10_feed 50 = .ok (.if_icmp .ge 7, 3) := by decide +kernel
theorem dX10_feed_57 : decode cX10_feed 57 = .ok (.iload 6, 2) := by decide +kernel
theorem dX10_feed_59 : decode cX10_feed 59 = .ok (.bipush 16, 2) := by decide +kernel
theorem dX10_feed_61 : decode cX10_feed 61 = .ok (.if_icmp .ge 8, 3) := by decide +kernel
theorem dX10_feed_69 : decode cX10_feed 69 = .ok (.iload 5, 2) := by decide +kernel
theorem dX10_feed_71 : decode cX10_feed 71 = .ok (.istore 7, 2) := by decide +kernel
theorem dX10_feed_73 : decode cX10_feed 73 = .ok (.aload_n 0, 1) := by decide +kernel
theorem dX10_feed_74 : decode cX10_feed 74 = .ok (.getfield 106, 3) := by decide +kernel
set_option maxRecDepth 100000 in
theorem wf_X10_106 : Cond.fieldLink RX10 106 "StoneTrustModel" "tape" "[B" ∈ gw := gm (List.mem_of_getElem? (i := 1255) (by decide +kernel)) rfl
theorem dX10_feed_77 : decode cX10_feed 77 = .ok (.aload_n 0, 1) := by decide +kernel
theorem dX10_feed_78 : decode cX10_feed 78 = .ok (.getfield 237, 3) := by decide +kernel
theorem dX10_feed_81 : decode cX10_feed 81 = .ok (.iload 6, 2) := by decide +kernel
theorem dX10_feed_83 : decode cX10_feed 83 = .ok (.iadd, 1) := by decide +kernel
theorem dX10_feed_84 : decode cX10_feed 84 = .ok (.iload 7, 2) := by decide +kernel
theorem dX10_feed_86 : decode cX10_feed 86 = .ok (.bipush 24, 2) := by decide +kernel
theorem dX10_feed_88 : decode cX10_feed 88 = .ok (.bipush 8, 2) := by decide +kernel
theorem dX10_feed_90 : decode cX10_feed 90 = .ok (.iload 6, 2) := by decide +kernel
theorem dX10_feed_92 : decode cX10_feed 92 = .ok (.iconst 3, 1) := by decide +kernel
theorem dX10_feed_93 : decode cX10_feed 93 = .ok (.iand, 1) := by decide +kernel
theorem dX10_feed_94 : decode cX10_feed 94 = .ok (.imul, 1) := by decide +kernel
theorem dX10_feed_95 : decode cX10_feed 95 = .ok (.isub, 1) := by decide +kernel
theorem dX10_feed_96 : decode cX10_feed 96 = .ok (.ishr, 1) := by decide +kernel
theorem dX10_feed_97 : decode cX10_feed 97 = .ok (.i2b, 1) := by decide +kernel
theorem dX10_feed_98 : decode cX10_feed 98 = .ok (.bastore, 1) := by decide +kernel
theorem dX10_feed_99 : decode cX10_feed 99 = .ok (.iinc 6 1, 3) := by decide +kernel
theorem dX10_feed_102 : decode cX10_feed 102 = .ok (.goto (-84), 3) := by decide +kernel
theorem dX10_feed_64 : decode cX10_feed 64 = .ok (.iload 4, 2) := by decide +kernel
theorem dX10_feed_66 : decode cX10_feed 66 = .ok (.goto 5, 3) := by decide +kernel
theorem dX10_feed_53 : decode cX10_feed 53 = .ok (.iload_n 3, 1) := by decide +kernel
theorem dX10_feed_54 : decode cX10_feed 54 = .ok (.goto 17, 3) := by decide +kernel
theorem dX10_feed_42 : decode cX10_feed 42 = .ok (.iload_n 2, 1) := by decide +kernel
theorem dX10_feed_43 : decode cX10_feed 43 = .ok (.goto 28, 3) := by decide +kernel
theorem dX10_feed_31 : decode cX10_feed 31 = .ok (.iload_n 1, 1) := by decide +kernel
theorem dX10_feed_32 : decode cX10_feed 32 = .ok (.goto 39, 3) := by decide +kernel
theorem dX10_feed_13 : decode cX10_feed 13 = .ok (.iconst (-1), 1) := by decide +kernel
theorem dX10_feed_14 : decode cX10_feed 14 = .ok (.ireturn, 1) := by decide +kernel
set_option maxHeartbeats 4000000 in
set_option maxRecDepth 100000 in
theorem c1_X10_feed (l : Launch) (G : va_G) (cI cJ cB cZ : ClassId) (a0 a1 a2 a3 a4 a5 a6 a7 a8 a9 a10 a11 a12 a13 a14 a15 a16 a17 a18 a19 a20 a21 a22 a23 a24 a25 a26 a27 a28 a29 a30 a31 a32 a33 a34 a35 a36 a37 a38 a39 a40 a41 a42 : Nat) (b1 : Int32) (b2 : Int32) (b3 : Int32) (b4 : Int32) (b5 : Int32) (v_m_2 : Int32) (v_m_3 : Int32) (v_m_4 : Int32) (v_m_5 : Int32) (v_m_6 : Int32) (v_m_7 : Int32) (v_m_8 : Int32) (v_m_9 : Int32) (w_m_10 : Int64) (v_m_41 : Int32) (v_m_44 : Int32) (v_m_45 : Int32) (v_m_46 : Int32) (v_m_47 : Int32) (v_m_49 : Int32) (v_m_53 : Int32) (v_m_54 : Int32) (v_m_55 : Int32) (v_m_56 : Int32) (v_m_57 : Int32) (v_m_58 : Int32) (v_m_59 : Int32) (v_m_60 : Int32) (v_m_62 : Int32) (v_m_67 : Int32) (v_m_68 : Int32) (g_m_tape : Nat → Int32) (hv_0 : 0 ≤ v_m_2.toInt) (hv_1 : v_m_2.toInt ≤ 1300) (hv_2 : 0 ≤ v_m_3.toInt) (hv_3 : v_m_3.toInt ≤ 1300) (hv_4 : 0 ≤ v_m_4.toInt) (hv_5 : v_m_4.toInt ≤ 5) (hv_6 : 0 ≤ v_m_6.toInt) (hv_7 : v_m_6.toInt ≤ 1300) (hv_8 : 0 ≤ v_m_7.toInt) (hv_9 : v_m_7.toInt ≤ 1301) (hv_10 : 0 ≤ v_m_8.toInt) (hv_11 : v_m_8.toInt ≤ 5) (hv_12 : 0 ≤ v_m_9.toInt) (hv_13 : v_m_9.toInt ≤ 9999) (hv_14 : 0 ≤ v_m_41.toInt) (hv_15 : v_m_41.toInt ≤ 1) (hv_16 : 0 ≤ v_m_44.toInt) (hv_17 : v_m_44.toInt ≤ 30) (hv_18 : 0 ≤ v_m_47.toInt) (hv_19 : v_m_47.toInt ≤ 1) (hv_20 : 0 ≤ v_m_49.toInt) (hv_21 : v_m_49.toInt ≤ 46) (hv_22 : 0 ≤ v_m_53.toInt) (hv_23 : v_m_53.toInt ≤ 300000) (hv_24 : 0 ≤ v_m_55.toInt) (hv_25 : v_m_55.toInt ≤ 300109) (hv_26 : v_m_56.toInt ≤ 300000) (hv_27 : 0 ≤ v_m_57.toInt) (hv_28 : v_m_57.toInt ≤ 1) (hv_29 : 0 ≤ v_m_60.toInt) (hv_30 : v_m_60.toInt ≤ 1) (hT_g_m_tape : TA (-128) 127 g_m_tape) : Con l G (TY cI cJ cB cZ) yX10_feed cX10_feed 8 (some .int) ({ frames := 0, cells := 0, slots := 0, locals := 0 } : Room) [.ref a0, .int b1, .int b2, .int b3, .int b4, .int b5] [(a0, .inr (10, [.ref a1, .ref a2, .int v_m_2, .int v_m_3, .int v_m_4, .int v_m_5, .int v_m_6, .int v_m_7, .int v_m_8, .int v_m_9, .long w_m_10, .ref a3, .ref a4, .ref a5, .ref a6, .ref a7, .ref a8, .ref a9, .ref a10, .ref a11, .ref a12, .ref a13, .ref a14, .ref a15, .ref a16, .ref a17, .ref a18, .ref a19, .ref a20, .ref a21, .ref a22, .ref a23, .ref a24, .ref a25, .ref a26, .ref a27, .ref a28, .ref a29, .ref a30, .ref a31, .int 0, .int v_m_41, .ref a32, .ref a33, .int v_m_44, .int v_m_45, .int v_m_46, .int v_m_47, .ref a34, .int v_m_49, .ref a35, .ref a36, .ref a37, .int v_m_53, .int v_m_54, .int v_m_55, .int v_m_56, .int v_m_57, .int v_m_58, .int v_m_59, .int v_m_60, .ref a38, .int v_m_62, .ref a39, .ref a40, .ref a41, .ref a42, .int v_m_67, .int v_m_68])), (a1, .inl (cB, 1320, .inl g_m_tape))] (QI G (TY cI cJ cB cZ) (fun (r : Int32) (u : Int32 × (Nat → Int32)) => ((-1) ≤ r.toInt ∧ r.toInt ≤ 1300 ∧ 20 ≤ u.1.toInt ∧ u.1.toInt ≤ 1300) ∧ TA (-128) 127 u.2) (fun u : Int32 × (Nat → Int32) => [(a0, .inr (10, [.ref a1, .ref a2, .int u.1, .int v_m_3, .int v_m_4, .int v_m_5, .int v_m_6, .int v_m_7, .int v_m_8, .int v_m_9, .long w_m_10, .ref a3, .ref a4, .ref a5, .ref a6, .ref a7, .ref a8, .ref a9, .ref a10, .ref a11, .ref a12, .ref a13, .ref a14, .ref a15, .ref a16, .ref a17, .ref a18, .ref a19, .ref a20, .ref a21, .ref a22, .ref a23, .ref a24, .ref a25, .ref a26, .ref a27, .ref a28, .ref a29, .ref a30, .ref a31, .int 0, .int v_m_41, .ref a32, .ref a33, .int v_m_44, .int v_m_45, .int v_m_46, .int v_m_47, .ref a34, .int v_m_49, .ref a35, .ref a36, .ref a37, .int v_m_53, .int v_m_54, .int v_m_55, .int v_m_56, .int v_m_57, .int v_m_58, .int v_m_59, .int v_m_60, .ref a38, .int v_m_62, .ref a39, .ref a40, .ref a41, .ref a42, .int v_m_67, .int v_m_68])), (a1, .inl (cB, 1320, .inl u.2))])) := by
  refine k_met (by decide) (Nat.le_of_ble_eq_true rfl) ?_
  intro p e s m below meth c A ls hC hr hlk hnm hN hZ hK hA hP hD hS hl
  have hl : lv_has ls 8 [(0, .ref a0), (1, .int b1), (2, .int b2), (3, .int b3), (4, .int b4), (5, .int b5)] := hl
  generalize hQm : MQ below _ _ s _ _ A = Qm
  generalize (List.toArray _ : Array Value) = args at hC hQm ⊢
  obtain ⟨hx, hb, hml, hown, hts⟩ := id hC
  obtain ⟨H, hH⟩ : ∃ q, q = s.heap := ⟨_, rfl⟩
  obtain ⟨locs, hlo⟩ : ∃ q : List Loc, q = [] := ⟨_, rfl⟩
  have hP : va_P G cl [(a0, .inr (10, [.ref a1, .ref a2, .int v_m_2, .int v_m_3, .int v_m_4, .int v_m_5, .int v_m_6, .int v_m_7, .int v_m_8, .int v_m_9, .long w_m_10, .ref a3, .ref a4, .ref a5, .ref a6, .ref a7, .ref a8, .ref a9, .ref a10, .ref a11, .ref a12, .ref a13, .ref a14, .ref a15, .ref a16, .ref a17, .ref a18, .ref a19, .ref a20, .ref a21, .ref a22, .ref a23, .ref a24, .ref a25, .ref a26, .ref a27, .ref a28, .ref a29, .ref a30, .ref a31, .int 0, .int v_m_41, .ref a32, .ref a33, .int v_m_44, .int v_m_45, .int v_m_46, .int v_m_47, .ref a34, .int v_m_49, .ref a35, .ref a36, .ref a37, .int v_m_53, .int v_m_54, .int v_m_55, .int v_m_56, .int v_m_57, .int v_m_58, .int v_m_59, .int v_m_60, .ref a38, .int v_m_62, .ref a39, .ref a40, .ref a41, .ref a42, .int v_m_67, .int v_m_68])), (a1, .inl (cB, 1320, .inl g_m_tape))] H := by rw [hH]; exact hP
  have hS : va_S A s.heap H locs := by rw [hH, hlo]; exact hS
  rw [← hlo]
  rw [← hH]
  refine lv_aload_n hx hb dX10_feed_0 rfl (lv_at hl 0 rfl) ?_
  refine k_get hC hK hP iX10 0 2 wf_X10_237 rfl (by decide) rfl rfl dX10_feed_1 ?_
  refine lv_bipush (v := 20) hx hb dX10_feed_4 (by decide) ?_
  refine lv_iadd hx hb dX10_feed_6 ?_
  refine t_i (fun q => q.toInt = v_m_2.toInt + 20) (add_i (by show (-2147483648 : Int) ≤ v_m_2.toInt + 20; omega) (by show v_m_2.toInt + 20 ≤ (2147483647 : Int); omega)) (fun z1 tz1 => ?_)
  refine lv_sipush (v := 1300) hx hb dX10_feed_7 (by decide) ?_
  refine lv_icmp_le (tgt := 15) hx hb dX10_feed_10 (by decide) (fun c2 => ?_) (fun c2 => ?_)
  · have dc2 : z1.toInt ≤ 1300 := (fa_le _ _).mp c2
    refine lv_iconst (v := 0) hx hb dX10_feed_15 (by decide) ?_
    refine lv_istore (lv' := [(6, .int 0), (0, .ref a0), (1, .int b1), (2, .int b2), (3, .int b3), (4, .int b4), (5, .int b5)]) hx hb dX10_feed_16 hl (by decide) rfl (fun ls hl => ?_)
    have L_18 : ∀ (n : Nat) (x3 : Int32) (f4 : Nat → Int32) (H : Heap) (locs : List Loc) (ls : Array Slot), (0 ≤ x3.toInt ∧ x3.toInt ≤ 20) → 20 - x3.toInt < (n : Int) → TA (-128) 127 f4 → va_P G cl [(a0, .inr (10, [.ref a1, .ref a2, .int v_m_2, .int v_m_3, .int v_m_4, .int v_m_5, .int v_m_6, .int v_m_7, .int v_m_8, .int v_m_9, .long w_m_10, .ref a3, .ref a4, .ref a5, .ref a6, .ref a7, .ref a8, .ref a9, .ref a10, .ref a11, .ref a12, .ref a13, .ref a14, .ref a15, .ref a16, .ref a17, .ref a18, .ref a19, .ref a20, .ref a21, .ref a22, .ref a23, .ref a24, .ref a25, .ref a26, .ref a27, .ref a28, .ref a29, .ref a30, .ref a31, .int 0, .int v_m_41, .ref a32, .ref a33, .int v_m_44, .int v_m_45, .int v_m_46, .int v_m_47, .ref a34, .int v_m_49, .ref a35, .ref a36, .ref a37, .int v_m_53, .int v_m_54, .int v_m_55, .int v_m_56, .int v_m_57, .int v_m_58, .int v_m_59, .int v_m_60, .ref a38, .int v_m_62, .ref a39, .ref a40, .ref a41, .ref a42, .int v_m_67, .int v_m_68])), (a1, .inl (cB, 1320, .inl f4))] H → va_D A [(a0, .inr (10, [.ref a1, .ref a2, .int v_m_2, .int v_m_3, .int v_m_4, .int v_m_5, .int v_m_6, .int v_m_7, .int v_m_8, .int v_m_9, .long w_m_10, .ref a3, .ref a4, .ref a5, .ref a6, .ref a7, .ref a8, .ref a9, .ref a10, .ref a11, .ref a12, .ref a13, .ref a14, .ref a15, .ref a16, .ref a17, .ref a18, .ref a19, .ref a20, .ref a21, .ref a22, .ref a23, .ref a24, .ref a25, .ref a26, .ref a27, .ref a28, .ref a29, .ref a30, .ref a31, .int 0, .int v_m_41, .ref a32, .ref a33, .int v_m_44, .int v_m_45, .int v_m_46, .int v_m_47, .ref a34, .int v_m_49, .ref a35, .ref a36, .ref a37, .int v_m_53, .int v_m_54, .int v_m_55, .int v_m_56, .int v_m_57, .int v_m_58, .int v_m_59, .int v_m_60, .ref a38, .int v_m_62, .ref a39, .ref a40, .ref a41, .ref a42, .int v_m_67, .int v_m_68])), (a1, .inl (cB, 1320, .inl f4))] → va_S A s.heap H locs → lv_has ls 8 [(0, .ref a0), (1, .int b1), (2, .int b2), (3, .int b3), (4, .int b4), (5, .int b5), (6, .int x3)] → W p l e ({ frames := 0, cells := 0, slots := 0, locals := 0 } : Room) s m args below meth c H locs 0 0 Qm (F0 m 18 ls []) := by
      intro n
      induction n with
      | zero => intro x3 f4 H locs ls hv hm; omega
      | succ n ih =>
        intro x3 f4 H locs ls hv hm hT_f4 hP hD hS hl
        refine lv_iload hx hb dX10_feed_18 (lv_at hl 6 rfl) ?_
        refine lv_bipush (v := 20) hx hb dX10_feed_20 (by decide) ?_
        refine lv_icmp_ge (tgt := 105) hx hb dX10_feed_22 (by decide) (fun c5 => ?_) (fun c5 => ?_)
        · have dc5 : 20 ≤ x3.toInt := (fa_le _ _).mp c5
          refine lv_aload_n hx hb dX10_feed_105 rfl (lv_at hl 0 rfl) ?_
          refine lv_dup hx hb dX10_feed_106 rfl ?_
          refine k_get hC hK hP iX10 0 2 wf_X10_237 rfl (by decide) rfl rfl dX10_feed_107 ?_
          refine lv_bipush (v := 20) hx hb dX10_feed_110 (by decide) ?_
          refine lv_iadd hx hb dX10_feed_112 ?_
          refine t_i (fun q => q.toInt = v_m_2.toInt + 20) (add_i (by show (-2147483648 : Int) ≤ v_m_2.toInt + 20; omega) (by show v_m_2.toInt + 20 ≤ (2147483647 : Int); omega)) (fun z6 tz6 => ?_)
          refine k_put hC hK hP hD hS iX10 tyX10_ok nmX10 0 2 wf_X10_237 rfl (by decide) rfl rfl rfl rfl (Nat.le_of_ble_eq_true rfl) dX10_feed_113 (fun H locs hP hD hS => ?_)
          have hP : va_P G cl [(a0, .inr (10, [.ref a1, .ref a2, .int z6, .int v_m_3, .int v_m_4, .int v_m_5, .int v_m_6, .int v_m_7, .int v_m_8, .int v_m_9, .long w_m_10, .ref a3, .ref a4, .ref a5, .ref a6, .ref a7, .ref a8, .ref a9, .ref a10, .ref a11, .ref a12, .ref a13, .ref a14, .ref a15, .ref a16, .ref a17, .ref a18, .ref a19, .ref a20, .ref a21, .ref a22, .ref a23, .ref a24, .ref a25, .ref a26, .ref a27, .ref a28, .ref a29, .ref a30, .ref a31, .int 0, .int v_m_41, .ref a32, .ref a33, .int v_m_44, .int v_m_45, .int v_m_46, .int v_m_47, .ref a34, .int v_m_49, .ref a35, .ref a36, .ref a37, .int v_m_53, .int v_m_54, .int v_m_55, .int v_m_56, .int v_m_57, .int v_m_58, .int v_m_59, .int v_m_60, .ref a38, .int v_m_62, .ref a39, .ref a40, .ref a41, .ref a42, .int v_m_67, .int v_m_68])), (a1, .inl (cB, 1320, .inl f4))] H := hP
          have hD : va_D A [(a0, .inr (10, [.ref a1, .ref a2, .int z6, .int v_m_3, .int v_m_4, .int v_m_5, .int v_m_6, .int v_m_7, .int v_m_8, .int v_m_9, .long w_m_10, .ref a3, .ref a4, .ref a5, .ref a6, .ref a7, .ref a8, .ref a9, .ref a10, .ref a11, .ref a12, .ref a13, .ref a14, .ref a15, .ref a16, .ref a17, .ref a18, .ref a19, .ref a20, .ref a21, .ref a22, .ref a23, .ref a24, .ref a25, .ref a26, .ref a27, .ref a28, .ref a29, .ref a30, .ref a31, .int 0, .int v_m_41, .ref a32, .ref a33, .int v_m_44, .int v_m_45, .int v_m_46, .int v_m_47, .ref a34, .int v_m_49, .ref a35, .ref a36, .ref a37, .int v_m_53, .int v_m_54, .int v_m_55, .int v_m_56, .int v_m_57, .int v_m_58, .int v_m_59, .int v_m_60, .ref a38, .int v_m_62, .ref a39, .ref a40, .ref a41, .ref a42, .int v_m_67, .int v_m_68])), (a1, .inl (cB, 1320, .inl f4))] := hD
          refine lv_aload_n hx hb dX10_feed_116 rfl (lv_at hl 0 rfl) ?_
          refine k_get hC hK hP iX10 0 2 wf_X10_237 rfl (by decide) rfl rfl dX10_feed_117 ?_
          rw [← hQm]
          exact k_iret hC hr hlk hK hP hD hS (z6, f4) [0, 1] rfl (by decide +kernel) ⟨(show (-1) ≤ z6.toInt ∧ z6.toInt ≤ 1300 ∧ 20 ≤ z6.toInt ∧ z6.toInt ≤ 1300 from by omega), hT_f4⟩ (Nat.le_of_ble_eq_true rfl) (Nat.le_of_ble_eq_true rfl) dX10_feed_120
        · have dc5 : x3.toInt < 20 := fa_nle c5
          refine lv_iload hx hb dX10_feed_25 (lv_at hl 6 rfl) ?_
          refine lv_iconst (v := 4) hx hb dX10_feed_27 (by decide) ?_
          refine lv_icmp_ge (tgt := 35) hx hb dX10_feed_28 (by decide) (fun c7 => ?_) (fun c7 => ?_)
          · have dc7 : 4 ≤ x3.toInt := (fa_le _ _).mp c7
            refine lv_iload hx hb dX10_feed_35 (lv_at hl 6 rfl) ?_
            refine lv_bipush (v := 8) hx hb dX10_feed_37 (by decide) ?_
            refine lv_icmp_ge (tgt := 46) hx hb dX10_feed_39 (by decide) (fun c8 => ?_) (fun c8 => ?_)
            · have dc8 : 8 ≤ x3.toInt := (fa_le _ _).mp c8
              refine lv_iload hx hb dX10_feed_46 (lv_at hl 6 rfl) ?_
              refine lv_bipush (v := 12) hx hb dX10_feed_48 (by decide) ?_
              refine lv_icmp_ge (tgt := 57) hx hb dX10_feed_50 (by decide) (fun c9 => ?_) (fun c9 => ?_)
              · have dc9 : 12 ≤ x3.toInt := (fa_le _ _).mp c9
                refine lv_iload hx hb dX10_feed_57 (lv_at hl 6 rfl) ?_
                refine lv_bipush (v := 16) hx hb dX10_feed_59 (by decide) ?_
                refine lv_icmp_ge (tgt := 69) hx hb dX10_feed_61 (by decide) (fun c10 => ?_) (fun c10 => ?_)
                · have dc10 : 16 ≤ x3.toInt := (fa_le _ _).mp c10
                  refine lv_iload hx hb dX10_feed_69 (lv_at hl 5 rfl) ?_
                  refine lv_istore (lv' := [(7, .int b5), (0, .ref a0), (1, .int b1), (2, .int b2), (3, .int b3), (4, .int b4), (5, .int b5), (6, .int x3)]) hx hb dX10_feed_71 hl (by decide) rfl (fun ls hl => ?_)
                  refine lv_aload_n hx hb dX10_feed_73 rfl (lv_at hl 1 rfl) ?_
                  refine k_get hC hK hP iX10 0 0 wf_X10_106 rfl (by decide) rfl rfl dX10_feed_74 ?_
                  refine lv_aload_n hx hb dX10_feed_77 rfl (lv_at hl 1 rfl) ?_
                  refine k_get hC hK hP iX10 0 2 wf_X10_237 rfl (by decide) rfl rfl dX10_feed_78 ?_
                  refine lv_iload hx hb dX10_feed_81 (lv_at hl 7 rfl) ?_
                  refine lv_iadd hx hb dX10_feed_83 ?_
                  refine t_i (fun q => q.toInt = v_m_2.toInt + x3.toInt) (add_i (by show (-2147483648 : Int) ≤ v_m_2.toInt + x3.toInt; omega) (by show v_m_2.toInt + x3.toInt ≤ (2147483647 : Int); omega)) (fun z11 tz11 => ?_)
                  refine lv_iload hx hb dX10_feed_84 (lv_at hl 0 rfl) ?_
                  refine lv_bipush (v := 24) hx hb dX10_feed_86 (by decide) ?_
                  refine lv_bipush (v := 8) hx hb dX10_feed_88 (by decide) ?_
                  refine lv_iload hx hb dX10_feed_90 (lv_at hl 7 rfl) ?_
                  refine lv_iconst (v := 3) hx hb dX10_feed_92 (by decide) ?_
                  refine lv_iand hx hb dX10_feed_93 ?_
                  refine t_i (fun q => 0 ≤ q.toInt ∧ q.toInt ≤ 3) (by have h_ := and_b (x := x3) (y := 3) (by decide); exact h_) (fun z12 tz12 => ?_)
                  refine lv_imul hx hb dX10_feed_94 ?_
                  refine t_i (fun q => q.toInt = 8 * z12.toInt) (mul_i (by show (-2147483648 : Int) ≤ 8 * z12.toInt; omega) (by show 8 * z12.toInt ≤ (2147483647 : Int); omega)) (fun z13 tz13 => ?_)
                  refine lv_isub hx hb dX10_feed_95 ?_
                  refine t_i (fun q => q.toInt = 24 - z13.toInt) (sub_i (by show (-2147483648 : Int) ≤ 24 - z13.toInt; omega) (by show 24 - z13.toInt ≤ (2147483647 : Int); omega)) (fun z14 tz14 => ?_)
                  refine lv_ishr hx hb dX10_feed_96 ?_
                  refine lv_topi (fun z15 _ => ?_)
                  refine lv_i2b hx hb dX10_feed_97 rfl ?_
                  refine t_i (fun q => -128 ≤ q.toInt ∧ q.toInt ≤ 127) (i2b_b _) (fun z16 tz16 => ?_)
                  refine t_bast hC hK hP hD hS 1 rfl (by omega) (by omega) hT_f4 dX10_feed_98 (fun f17 H locs hT_f17 hP hD hS => ?_)
                  have hP : va_P G cl [(a0, .inr (10, [.ref a1, .ref a2, .int v_m_2, .int v_m_3, .int v_m_4, .int v_m_5, .int v_m_6, .int v_m_7, .int v_m_8, .int v_m_9, .long w_m_10, .ref a3, .ref a4, .ref a5, .ref a6, .ref a7, .ref a8, .ref a9, .ref a10, .ref a11, .ref a12, .ref a13, .ref a14, .ref a15, .ref a16, .ref a17, .ref a18, .ref a19, .ref a20, .ref a21, .ref a22, .ref a23, .ref a24, .ref a25, .ref a26, .ref a27, .ref a28, .ref a29, .ref a30, .ref a31, .int 0, .int v_m_41, .ref a32, .ref a33, .int v_m_44, .int v_m_45, .int v_m_46, .int v_m_47, .ref a34, .int v_m_49, .ref a35, .ref a36, .ref a37, .int v_m_53, .int v_m_54, .int v_m_55, .int v_m_56, .int v_m_57, .int v_m_58, .int v_m_59, .int v_m_60, .ref a38, .int v_m_62, .ref a39, .ref a40, .ref a41, .ref a42, .int v_m_67, .int v_m_68])), (a1, .inl (cB, 1320, .inl f17))] H := hP
                  have hD : va_D A [(a0, .inr (10, [.ref a1, .ref a2, .int v_m_2, .int v_m_3, .int v_m_4, .int v_m_5, .int v_m_6, .int v_m_7, .int v_m_8, .int v_m_9, .long w_m_10, .ref a3, .ref a4, .ref a5, .ref a6, .ref a7, .ref a8, .ref a9, .ref a10, .ref a11, .ref a12, .ref a13, .ref a14, .ref a15, .ref a16, .ref a17, .ref a18, .ref a19, .ref a20, .ref a21, .ref a22, .ref a23, .ref a24, .ref a25, .ref a26, .ref a27, .ref a28, .ref a29, .ref a30, .ref a31, .int 0, .int v_m_41, .ref a32, .ref a33, .int v_m_44, .int v_m_45, .int v_m_46, .int v_m_47, .ref a34, .int v_m_49, .ref a35, .ref a36, .ref a37, .int v_m_53, .int v_m_54, .int v_m_55, .int v_m_56, .int v_m_57, .int v_m_58, .int v_m_59, .int v_m_60, .ref a38, .int v_m_62, .ref a39, .ref a40, .ref a41, .ref a42, .int v_m_67, .int v_m_68])), (a1, .inl (cB, 1320, .inl f17))] := hD
                  obtain ⟨z18, ez18⟩ : ∃ q : Int32, q = x3 + Int32.ofInt 1 := ⟨_, rfl⟩
                  have tz18 : z18.toInt = x3.toInt + 1 := by rw [ez18]; exact add_i (y := 1) (by have p_ := i_lo x3; show _ ≤ _ + (1 : Int); omega) (by have q_ := i_hi x3; show _ + (1 : Int) ≤ _; omega)
                  refine lv_iinc (v := z18) (lv' := [(6, .int z18), (7, .int b5), (0, .ref a0), (1, .int b1), (2, .int b2), (3, .int b3), (4, .int b4), (5, .int b5)]) hx hb dX10_feed_99 hl (k := 7) rfl ez18.symm (by decide) rfl (fun ls hl => ?_)
                  refine lv_goto (tgt := 18) hx hb dX10_feed_102 (by decide) ?_
                  exact ih  z18 f17 H locs ls (by omega) (by omega) hT_f17 (hP.subm [0, 1] rfl) (hD.sub [0, 1] (by decide +kernel) rfl) hS (lv_sub hl [2, 3, 4, 5, 6, 7, 0] rfl)
                · have dc10 : x3.toInt < 16 := fa_nle c10
                  refine lv_iload hx hb dX10_feed_64 (lv_at hl 4 rfl) ?_
                  refine lv_goto (tgt := 71) hx hb dX10_feed_66 (by decide) ?_
                  refine lv_istore (lv' := [(7, .int b4), (0, .ref a0), (1, .int b1), (2, .int b2), (3, .int b3), (4, .int b4), (5, .int b5), (6, .int x3)]) hx hb dX10_feed_71 hl (by decide) rfl (fun ls hl => ?_)
                  refine lv_aload_n hx hb dX10_feed_73 rfl (lv_at hl 1 rfl) ?_
                  refine k_get hC hK hP iX10 0 0 wf_X10_106 rfl (by decide) rfl rfl dX10_feed_74 ?_
                  refine lv_aload_n hx hb dX10_feed_77 rfl (lv_at hl 1 rfl) ?_
                  refine k_get hC hK hP iX10 0 2 wf_X10_237 rfl (by decide) rfl rfl dX10_feed_78 ?_
                  refine lv_iload hx hb dX10_feed_81 (lv_at hl 7 rfl) ?_
                  refine lv_iadd hx hb dX10_feed_83 ?_
                  refine t_i (fun q => q.toInt = v_m_2.toInt + x3.toInt) (add_i (by show (-2147483648 : Int) ≤ v_m_2.toInt + x3.toInt; omega) (by show v_m_2.toInt + x3.toInt ≤ (2147483647 : Int); omega)) (fun z19 tz19 => ?_)
                  refine lv_iload hx hb dX10_feed_84 (lv_at hl 0 rfl) ?_
                  refine lv_bipush (v := 24) hx hb dX10_feed_86 (by decide) ?_
                  refine lv_bipush (v := 8) hx hb dX10_feed_88 (by decide) ?_
                  refine lv_iload hx hb dX10_feed_90 (lv_at hl 7 rfl) ?_
                  refine lv_iconst (v := 3) hx hb dX10_feed_92 (by decide) ?_
                  refine lv_iand hx hb dX10_feed_93 ?_
                  refine t_i (fun q => 0 ≤ q.toInt ∧ q.toInt ≤ 3) (by have h_ := and_b (x := x3) (y := 3) (by decide); exact h_) (fun z20 tz20 => ?_)
                  refine lv_imul hx hb dX10_feed_94 ?_
                  refine t_i (fun q => q.toInt = 8 * z20.toInt) (mul_i (by show (-2147483648 : Int) ≤ 8 * z20.toInt; omega) (by show 8 * z20.toInt ≤ (2147483647 : Int); omega)) (fun z21 tz21 => ?_)
                  refine lv_isub hx hb dX10_feed_95 ?_
                  refine t_i (fun q => q.toInt = 24 - z21.toInt) (sub_i (by show (-2147483648 : Int) ≤ 24 - z21.toInt; omega) (by show 24 - z21.toInt ≤ (2147483647 : Int); omega)) (fun z22 tz22 => ?_)
                  refine lv_ishr hx hb dX10_feed_96 ?_
                  refine lv_topi (fun z23 _ => ?_)
                  refine lv_i2b hx hb dX10_feed_97 rfl ?_
                  refine t_i (fun q => -128 ≤ q.toInt ∧ q.toInt ≤ 127) (i2b_b _) (fun z24 tz24 => ?_)
                  refine t_bast hC hK hP hD hS 1 rfl (by omega) (by omega) hT_f4 dX10_feed_98 (fun f25 H locs hT_f25 hP hD hS => ?_)
                  have hP : va_P G cl [(a0, .inr (10, [.ref a1, .ref a2, .int v_m_2, .int v_m_3, .int v_m_4, .int v_m_5, .int v_m_6, .int v_m_7, .int v_m_8, .int v_m_9, .long w_m_10, .ref a3, .ref a4, .ref a5, .ref a6, .ref a7, .ref a8, .ref a9, .ref a10, .ref a11, .ref a12, .ref a13, .ref a14, .ref a15, .ref a16, .ref a17, .ref a18, .ref a19, .ref a20, .ref a21, .ref a22, .ref a23, .ref a24, .ref a25, .ref a26, .ref a27, .ref a28, .ref a29, .ref a30, .ref a31, .int 0, .int v_m_41, .ref a32, .ref a33, .int v_m_44, .int v_m_45, .int v_m_46, .int v_m_47, .ref a34, .int v_m_49, .ref a35, .ref a36, .ref a37, .int v_m_53, .int v_m_54, .int v_m_55, .int v_m_56, .int v_m_57, .int v_m_58, .int v_m_59, .int v_m_60, .ref a38, .int v_m_62, .ref a39, .ref a40, .ref a41, .ref a42, .int v_m_67, .int v_m_68])), (a1, .inl (cB, 1320, .inl f25))] H := hP
                  have hD : va_D A [(a0, .inr (10, [.ref a1, .ref a2, .int v_m_2, .int v_m_3, .int v_m_4, .int v_m_5, .int v_m_6, .int v_m_7, .int v_m_8, .int v_m_9, .long w_m_10, .ref a3, .ref a4, .ref a5, .ref a6, .ref a7, .ref a8, .ref a9, .ref a10, .ref a11, .ref a12, .ref a13, .ref a14, .ref a15, .ref a16, .ref a17, .ref a18, .ref a19, .ref a20, .ref a21, .ref a22, .ref a23, .ref a24, .ref a25, .ref a26, .ref a27, .ref a28, .ref a29, .ref a30, .ref a31, .int 0, .int v_m_41, .ref a32, .ref a33, .int v_m_44, .int v_m_45, .int v_m_46, .int v_m_47, .ref a34, .int v_m_49, .ref a35, .ref a36, .ref a37, .int v_m_53, .int v_m_54, .int v_m_55, .int v_m_56, .int v_m_57, .int v_m_58, .int v_m_59, .int v_m_60, .ref a38, .int v_m_62, .ref a39, .ref a40, .ref a41, .ref a42, .int v_m_67, .int v_m_68])), (a1, .inl (cB, 1320, .inl f25))] := hD
                  obtain ⟨z26, ez26⟩ : ∃ q : Int32, q = x3 + Int32.ofInt 1 := ⟨_, rfl⟩
                  have tz26 : z26.toInt = x3.toInt + 1 := by rw [ez26]; exact add_i (y := 1) (by have p_ := i_lo x3; show _ ≤ _ + (1 : Int); omega) (by have q_ := i_hi x3; show _ + (1 : Int) ≤ _; omega)
                  refine lv_iinc (v := z26) (lv' := [(6, .int z26), (7, .int b4), (0, .ref a0), (1, .int b1), (2, .int b2), (3, .int b3), (4, .int b4), (5, .int b5)]) hx hb dX10_feed_99 hl (k := 7) rfl ez26.symm (by decide) rfl (fun ls hl => ?_)
                  refine lv_goto (tgt := 18) hx hb dX10_feed_102 (by decide) ?_
                  exact ih  z26 f25 H locs ls (by omega) (by omega) hT_f25 (hP.subm [0, 1] rfl) (hD.sub [0, 1] (by decide +kernel) rfl) hS (lv_sub hl [2, 3, 4, 5, 6, 7, 0] rfl)
              · have dc9 : x3.toInt < 12 := fa_nle c9
                refine lv_iload_n hx hb dX10_feed_53 rfl (lv_at hl 3 rfl) ?_
                refine lv_goto (tgt := 71) hx hb dX10_feed_54 (by decide) ?_
                refine lv_istore (lv' := [(7, .int b3), (0, .ref a0), (1, .int b1), (2, .int b2), (3, .int b3), (4, .int b4), (5, .int b5), (6, .int x3)]) hx hb dX10_feed_71 hl (by decide) rfl (fun ls hl => ?_)
                refine lv_aload_n hx hb dX10_feed_73 rfl (lv_at hl 1 rfl) ?_
                refine k_get hC hK hP iX10 0 0 wf_X10_106 rfl (by decide) rfl rfl dX10_feed_74 ?_
                refine lv_aload_n hx hb dX10_feed_77 rfl (lv_at hl 1 rfl) ?_
                refine k_get hC hK hP iX10 0 2 wf_X10_237 rfl (by decide) rfl rfl dX10_feed_78 ?_
                refine lv_iload hx hb dX10_feed_81 (lv_at hl 7 rfl) ?_
                refine lv_iadd hx hb dX10_feed_83 ?_
                refine t_i (fun q => q.toInt = v_m_2.toInt + x3.toInt) (add_i (by show (-2147483648 : Int) ≤ v_m_2.toInt + x3.toInt; omega) (by show v_m_2.toInt + x3.toInt ≤ (2147483647 : Int); omega)) (fun z27 tz27 => ?_)
                refine lv_iload hx hb dX10_feed_84 (lv_at hl 0 rfl) ?_
                refine lv_bipush (v := 24) hx hb dX10_feed_86 (by decide) ?_
                refine lv_bipush (v := 8) hx hb dX10_feed_88 (by decide) ?_
                refine lv_iload hx hb dX10_feed_90 (lv_at hl 7 rfl) ?_
                refine lv_iconst (v := 3) hx hb dX10_feed_92 (by decide) ?_
                refine lv_iand hx hb dX10_feed_93 ?_
                refine t_i (fun q => 0 ≤ q.toInt ∧ q.toInt ≤ 3) (by have h_ := and_b (x := x3) (y := 3) (by decide); exact h_) (fun z28 tz28 => ?_)
                refine lv_imul hx hb dX10_feed_94 ?_
                refine t_i (fun q => q.toInt = 8 * z28.toInt) (mul_i (by show (-2147483648 : Int) ≤ 8 * z28.toInt; omega) (by show 8 * z28.toInt ≤ (2147483647 : Int); omega)) (fun z29 tz29 => ?_)
                refine lv_isub hx hb dX10_feed_95 ?_
                refine t_i (fun q => q.toInt = 24 - z29.toInt) (sub_i (by show (-2147483648 : Int) ≤ 24 - z29.toInt; omega) (by show 24 - z29.toInt ≤ (2147483647 : Int); omega)) (fun z30 tz30 => ?_)
                refine lv_ishr hx hb dX10_feed_96 ?_
                refine lv_topi (fun z31 _ => ?_)
                refine lv_i2b hx hb dX10_feed_97 rfl ?_
                refine t_i (fun q => -128 ≤ q.toInt ∧ q.toInt ≤ 127) (i2b_b _) (fun z32 tz32 => ?_)
                refine t_bast hC hK hP hD hS 1 rfl (by omega) (by omega) hT_f4 dX10_feed_98 (fun f33 H locs hT_f33 hP hD hS => ?_)
                have hP : va_P G cl [(a0, .inr (10, [.ref a1, .ref a2, .int v_m_2, .int v_m_3, .int v_m_4, .int v_m_5, .int v_m_6, .int v_m_7, .int v_m_8, .int v_m_9, .long w_m_10, .ref a3, .ref a4, .ref a5, .ref a6, .ref a7, .ref a8, .ref a9, .ref a10, .ref a11, .ref a12, .ref a13, .ref a14, .ref a15, .ref a16, .ref a17, .ref a18, .ref a19, .ref a20, .ref a21, .ref a22, .ref a23, .ref a24, .ref a25, .ref a26, .ref a27, .ref a28, .ref a29, .ref a30, .ref a31, .int 0, .int v_m_41, .ref a32, .ref a33, .int v_m_44, .int v_m_45, .int v_m_46, .int v_m_47, .ref a34, .int v_m_49, .ref a35, .ref a36, .ref a37, .int v_m_53, .int v_m_54, .int v_m_55, .int v_m_56, .int v_m_57, .int v_m_58, .int v_m_59, .int v_m_60, .ref a38, .int v_m_62, .ref a39, .ref a40, .ref a41, .ref a42, .int v_m_67, .int v_m_68])), (a1, .inl (cB, 1320, .inl f33))] H := hP
                have hD : va_D A [(a0, .inr (10, [.ref a1, .ref a2, .int v_m_2, .int v_m_3, .int v_m_4, .int v_m_5, .int v_m_6, .int v_m_7, .int v_m_8, .int v_m_9, .long w_m_10, .ref a3, .ref a4, .ref a5, .ref a6, .ref a7, .ref a8, .ref a9, .ref a10, .ref a11, .ref a12, .ref a13, .ref a14, .ref a15, .ref a16, .ref a17, .ref a18, .ref a19, .ref a20, .ref a21, .ref a22, .ref a23, .ref a24, .ref a25, .ref a26, .ref a27, .ref a28, .ref a29, .ref a30, .ref a31, .int 0, .int v_m_41, .ref a32, .ref a33, .int v_m_44, .int v_m_45, .int v_m_46, .int v_m_47, .ref a34, .int v_m_49, .ref a35, .ref a36, .ref a37, .int v_m_53, .int v_m_54, .int v_m_55, .int v_m_56, .int v_m_57, .int v_m_58, .int v_m_59, .int v_m_60, .ref a38, .int v_m_62, .ref a39, .ref a40, .ref a41, .ref a42, .int v_m_67, .int v_m_68])), (a1, .inl (cB, 1320, .inl f33))] := hD
                obtain ⟨z34, ez34⟩ : ∃ q : Int32, q = x3 + Int32.ofInt 1 := ⟨_, rfl⟩
                have tz34 : z34.toInt = x3.toInt + 1 := by rw [ez34]; exact add_i (y := 1) (by have p_ := i_lo x3; show _ ≤ _ + (1 : Int); omega) (by have q_ := i_hi x3; show _ + (1 : Int) ≤ _; omega)
                refine lv_iinc (v := z34) (lv' := [(6, .int z34), (7, .int b3), (0, .ref a0), (1, .int b1), (2, .int b2), (3, .int b3), (4, .int b4), (5, .int b5)]) hx hb dX10_feed_99 hl (k := 7) rfl ez34.symm (by decide) rfl (fun ls hl => ?_)
                refine lv_goto (tgt := 18) hx hb dX10_feed_102 (by decide) ?_
                exact ih  z34 f33 H locs ls (by omega) (by omega) hT_f33 (hP.subm [0, 1] rfl) (hD.sub [0, 1] (by decide +kernel) rfl) hS (lv_sub hl [2, 3, 4, 5, 6, 7, 0] rfl)
            · have dc8 : x3.toInt < 8 := fa_nle c8
              refine lv_iload_n hx hb dX10_feed_42 rfl (lv_at hl 2 rfl) ?_
              refine lv_goto (tgt := 71) hx hb dX10_feed_43 (by decide) ?_
              refine lv_istore (lv' := [(7, .int b2), (0, .ref a0), (1, .int b1), (2, .int b2), (3, .int b3), (4, .int b4), (5, .int b5), (6, .int x3)]) hx hb dX10_feed_71 hl (by decide) rfl (fun ls hl => ?_)
              refine lv_aload_n hx hb dX10_feed_73 rfl (lv_at hl 1 rfl) ?_
              refine k_get hC hK hP iX10 0 0 wf_X10_106 rfl (by decide) rfl rfl dX10_feed_74 ?_
              refine lv_aload_n hx hb dX10_feed_77 rfl (lv_at hl 1 rfl) ?_
              refine k_get hC hK hP iX10 0 2 wf_X10_237 rfl (by decide) rfl rfl dX10_feed_78 ?_
              refine lv_iload hx hb dX10_feed_81 (lv_at hl 7 rfl) ?_
              refine lv_iadd hx hb dX10_feed_83 ?_
              refine t_i (fun q => q.toInt = v_m_2.toInt + x3.toInt) (add_i (by show (-2147483648 : Int) ≤ v_m_2.toInt + x3.toInt; omega) (by show v_m_2.toInt + x3.toInt ≤ (2147483647 : Int); omega)) (fun z35 tz35 => ?_)
              refine lv_iload hx hb dX10_feed_84 (lv_at hl 0 rfl) ?_
              refine lv_bipush (v := 24) hx hb dX10_feed_86 (by decide) ?_
              refine lv_bipush (v := 8) hx hb dX10_feed_88 (by decide) ?_
              refine lv_iload hx hb dX10_feed_90 (lv_at hl 7 rfl) ?_
              refine lv_iconst (v := 3) hx hb dX10_feed_92 (by decide) ?_
              refine lv_iand hx hb dX10_feed_93 ?_
              refine t_i (fun q => 0 ≤ q.toInt ∧ q.toInt ≤ 3) (by have h_ := and_b (x := x3) (y := 3) (by decide); exact h_) (fun z36 tz36 => ?_)
              refine lv_imul hx hb dX10_feed_94 ?_
              refine t_i (fun q => q.toInt = 8 * z36.toInt) (mul_i (by show (-2147483648 : Int) ≤ 8 * z36.toInt; omega) (by show 8 * z36.toInt ≤ (2147483647 : Int); omega)) (fun z37 tz37 => ?_)
              refine lv_isub hx hb dX10_feed_95 ?_
              refine t_i (fun q => q.toInt = 24 - z37.toInt) (sub_i (by show (-2147483648 : Int) ≤ 24 - z37.toInt; omega) (by show 24 - z37.toInt ≤ (2147483647 : Int); omega)) (fun z38 tz38 => ?_)
              refine lv_ishr hx hb dX10_feed_96 ?_
              refine lv_topi (fun z39 _ => ?_)
              refine lv_i2b hx hb dX10_feed_97 rfl ?_
              refine t_i (fun q => -128 ≤ q.toInt ∧ q.toInt ≤ 127) (i2b_b _) (fun z40 tz40 => ?_)
              refine t_bast hC hK hP hD hS 1 rfl (by omega) (by omega) hT_f4 dX10_feed_98 (fun f41 H locs hT_f41 hP hD hS => ?_)
              have hP : va_P G cl [(a0, .inr (10, [.ref a1, .ref a2, .int v_m_2, .int v_m_3, .int v_m_4, .int v_m_5, .int v_m_6, .int v_m_7, .int v_m_8, .int v_m_9, .long w_m_10, .ref a3, .ref a4, .ref a5, .ref a6, .ref a7, .ref a8, .ref a9, .ref a10, .ref a11, .ref a12, .ref a13, .ref a14, .ref a15, .ref a16, .ref a17, .ref a18, .ref a19, .ref a20, .ref a21, .ref a22, .ref a23, .ref a24, .ref a25, .ref a26, .ref a27, .ref a28, .ref a29, .ref a30, .ref a31, .int 0, .int v_m_41, .ref a32, .ref a33, .int v_m_44, .int v_m_45, .int v_m_46, .int v_m_47, .ref a34, .int v_m_49, .ref a35, .ref a36, .ref a37, .int v_m_53, .int v_m_54, .int v_m_55, .int v_m_56, .int v_m_57, .int v_m_58, .int v_m_59, .int v_m_60, .ref a38, .int v_m_62, .ref a39, .ref a40, .ref a41, .ref a42, .int v_m_67, .int v_m_68])), (a1, .inl (cB, 1320, .inl f41))] H := hP
              have hD : va_D A [(a0, .inr (10, [.ref a1, .ref a2, .int v_m_2, .int v_m_3, .int v_m_4, .int v_m_5, .int v_m_6, .int v_m_7, .int v_m_8, .int v_m_9, .long w_m_10, .ref a3, .ref a4, .ref a5, .ref a6, .ref a7, .ref a8, .ref a9, .ref a10, .ref a11, .ref a12, .ref a13, .ref a14, .ref a15, .ref a16, .ref a17, .ref a18, .ref a19, .ref a20, .ref a21, .ref a22, .ref a23, .ref a24, .ref a25, .ref a26, .ref a27, .ref a28, .ref a29, .ref a30, .ref a31, .int 0, .int v_m_41, .ref a32, .ref a33, .int v_m_44, .int v_m_45, .int v_m_46, .int v_m_47, .ref a34, .int v_m_49, .ref a35, .ref a36, .ref a37, .int v_m_53, .int v_m_54, .int v_m_55, .int v_m_56, .int v_m_57, .int v_m_58, .int v_m_59, .int v_m_60, .ref a38, .int v_m_62, .ref a39, .ref a40, .ref a41, .ref a42, .int v_m_67, .int v_m_68])), (a1, .inl (cB, 1320, .inl f41))] := hD
              obtain ⟨z42, ez42⟩ : ∃ q : Int32, q = x3 + Int32.ofInt 1 := ⟨_, rfl⟩
              have tz42 : z42.toInt = x3.toInt + 1 := by rw [ez42]; exact add_i (y := 1) (by have p_ := i_lo x3; show _ ≤ _ + (1 : Int); omega) (by have q_ := i_hi x3; show _ + (1 : Int) ≤ _; omega)
              refine lv_iinc (v := z42) (lv' := [(6, .int z42), (7, .int b2), (0, .ref a0), (1, .int b1), (2, .int b2), (3, .int b3), (4, .int b4), (5, .int b5)]) hx hb dX10_feed_99 hl (k := 7) rfl ez42.symm (by decide) rfl (fun ls hl => ?_)
              refine lv_goto (tgt := 18) hx hb dX10_feed_102 (by decide) ?_
              exact ih  z42 f41 H locs ls (by omega) (by omega) hT_f41 (hP.subm [0, 1] rfl) (hD.sub [0, 1] (by decide +kernel) rfl) hS (lv_sub hl [2, 3, 4, 5, 6, 7, 0] rfl)
          · have dc7 : x3.toInt < 4 := fa_nle c7
            refine lv_iload_n hx hb dX10_feed_31 rfl (lv_at hl 1 rfl) ?_
            refine lv_goto (tgt := 71) hx hb dX10_feed_32 (by decide) ?_
            refine lv_istore (lv' := [(7, .int b1), (0, .ref a0), (1, .int b1), (2, .int b2), (3, .int b3), (4, .int b4), (5, .int b5), (6, .int x3)]) hx hb dX10_feed_71 hl (by decide) rfl (fun ls hl => ?_)
            refine lv_aload_n hx hb dX10_feed_73 rfl (lv_at hl 1 rfl) ?_
            refine k_get hC hK hP iX10 0 0 wf_X10_106 rfl (by decide) rfl rfl dX10_feed_74 ?_
            refine lv_aload_n hx hb dX10_feed_77 rfl (lv_at hl 1 rfl) ?_
            refine k_get hC hK hP iX10 0 2 wf_X10_237 rfl (by decide) rfl rfl dX10_feed_78 ?_
            refine lv_iload hx hb dX10_feed_81 (lv_at hl 7 rfl) ?_
            refine lv_iadd hx hb dX10_feed_83 ?_
            refine t_i (fun q => q.toInt = v_m_2.toInt + x3.toInt) (add_i (by show (-2147483648 : Int) ≤ v_m_2.toInt + x3.toInt; omega) (by show v_m_2.toInt + x3.toInt ≤ (2147483647 : Int); omega)) (fun z43 tz43 => ?_)
            refine lv_iload hx hb dX10_feed_84 (lv_at hl 0 rfl) ?_
            refine lv_bipush (v := 24) hx hb dX10_feed_86 (by decide) ?_
            refine lv_bipush (v := 8) hx hb dX10_feed_88 (by decide) ?_
            refine lv_iload hx hb dX10_feed_90 (lv_at hl 7 rfl) ?_
            refine lv_iconst (v := 3) hx hb dX10_feed_92 (by decide) ?_
            refine lv_iand hx hb dX10_feed_93 ?_
            refine t_i (fun q => 0 ≤ q.toInt ∧ q.toInt ≤ 3) (by have h_ := and_b (x := x3) (y := 3) (by decide); exact h_) (fun z44 tz44 => ?_)
            refine lv_imul hx hb dX10_feed_94 ?_
            refine t_i (fun q => q.toInt = 8 * z44.toInt) (mul_i (by show (-2147483648 : Int) ≤ 8 * z44.toInt; omega) (by show 8 * z44.toInt ≤ (2147483647 : Int); omega)) (fun z45 tz45 => ?_)
            refine lv_isub hx hb dX10_feed_95 ?_
            refine t_i (fun q => q.toInt = 24 - z45.toInt) (sub_i (by show (-2147483648 : Int) ≤ 24 - z45.toInt; omega) (by show 24 - z45.toInt ≤ (2147483647 : Int); omega)) (fun z46 tz46 => ?_)
            refine lv_ishr hx hb dX10_feed_96 ?_
            refine lv_topi (fun z47 _ => ?_)
            refine lv_i2b hx hb dX10_feed_97 rfl ?_
            refine t_i (fun q => -128 ≤ q.toInt ∧ q.toInt ≤ 127) (i2b_b _) (fun z48 tz48 => ?_)
            refine t_bast hC hK hP hD hS 1 rfl (by omega) (by omega) hT_f4 dX10_feed_98 (fun f49 H locs hT_f49 hP hD hS => ?_)
            have hP : va_P G cl [(a0, .inr (10, [.ref a1, .ref a2, .int v_m_2, .int v_m_3, .int v_m_4, .int v_m_5, .int v_m_6, .int v_m_7, .int v_m_8, .int v_m_9, .long w_m_10, .ref a3, .ref a4, .ref a5, .ref a6, .ref a7, .ref a8, .ref a9, .ref a10, .ref a11, .ref a12, .ref a13, .ref a14, .ref a15, .ref a16, .ref a17, .ref a18, .ref a19, .ref a20, .ref a21, .ref a22, .ref a23, .ref a24, .ref a25, .ref a26, .ref a27, .ref a28, .ref a29, .ref a30, .ref a31, .int 0, .int v_m_41, .ref a32, .ref a33, .int v_m_44, .int v_m_45, .int v_m_46, .int v_m_47, .ref a34, .int v_m_49, .ref a35, .ref a36, .ref a37, .int v_m_53, .int v_m_54, .int v_m_55, .int v_m_56, .int v_m_57, .int v_m_58, .int v_m_59, .int v_m_60, .ref a38, .int v_m_62, .ref a39, .ref a40, .ref a41, .ref a42, .int v_m_67, .int v_m_68])), (a1, .inl (cB, 1320, .inl f49))] H := hP
            have hD : va_D A [(a0, .inr (10, [.ref a1, .ref a2, .int v_m_2, .int v_m_3, .int v_m_4, .int v_m_5, .int v_m_6, .int v_m_7, .int v_m_8, .int v_m_9, .long w_m_10, .ref a3, .ref a4, .ref a5, .ref a6, .ref a7, .ref a8, .ref a9, .ref a10, .ref a11, .ref a12, .ref a13, .ref a14, .ref a15, .ref a16, .ref a17, .ref a18, .ref a19, .ref a20, .ref a21, .ref a22, .ref a23, .ref a24, .ref a25, .ref a26, .ref a27, .ref a28, .ref a29, .ref a30, .ref a31, .int 0, .int v_m_41, .ref a32, .ref a33, .int v_m_44, .int v_m_45, .int v_m_46, .int v_m_47, .ref a34, .int v_m_49, .ref a35, .ref a36, .ref a37, .int v_m_53, .int v_m_54, .int v_m_55, .int v_m_56, .int v_m_57, .int v_m_58, .int v_m_59, .int v_m_60, .ref a38, .int v_m_62, .ref a39, .ref a40, .ref a41, .ref a42, .int v_m_67, .int v_m_68])), (a1, .inl (cB, 1320, .inl f49))] := hD
            obtain ⟨z50, ez50⟩ : ∃ q : Int32, q = x3 + Int32.ofInt 1 := ⟨_, rfl⟩
            have tz50 : z50.toInt = x3.toInt + 1 := by rw [ez50]; exact add_i (y := 1) (by have p_ := i_lo x3; show _ ≤ _ + (1 : Int); omega) (by have q_ := i_hi x3; show _ + (1 : Int) ≤ _; omega)
            refine lv_iinc (v := z50) (lv' := [(6, .int z50), (7, .int b1), (0, .ref a0), (1, .int b1), (2, .int b2), (3, .int b3), (4, .int b4), (5, .int b5)]) hx hb dX10_feed_99 hl (k := 7) rfl ez50.symm (by decide) rfl (fun ls hl => ?_)
            refine lv_goto (tgt := 18) hx hb dX10_feed_102 (by decide) ?_
            exact ih  z50 f49 H locs ls (by omega) (by omega) hT_f49 (hP.subm [0, 1] rfl) (hD.sub [0, 1] (by decide +kernel) rfl) hS (lv_sub hl [2, 3, 4, 5, 6, 7, 0] rfl)
    have l_l51 : (0 : Int32).toInt = 0 := rfl
    exact L_18 21 0 g_m_tape H locs ls (by omega) (by omega) hT_g_m_tape (hP.subm [0, 1] rfl) (hD.sub [0, 1] (by decide +kernel) rfl) hS (lv_sub hl [1, 2, 3, 4, 5, 6, 0] rfl)
  · have dc2 : 1300 < z1.toInt := fa_nle c2
    refine lv_iconst (v := (-1)) hx hb dX10_feed_13 (by decide) ?_
    have l_l52 : ((-1) : Int32).toInt = (-1) := rfl
    rw [← hQm]
    exact k_iret hC hr hlk hK hP hD hS (v_m_2, g_m_tape) [0, 1] rfl (by decide +kernel) ⟨(show (-1) ≤ ((-1) : Int32).toInt ∧ ((-1) : Int32).toInt ≤ 1300 ∧ 20 ≤ v_m_2.toInt ∧ v_m_2.toInt ≤ 1300 from by omega), hT_g_m_tape⟩ (Nat.le_of_ble_eq_true rfl) (Nat.le_of_ble_eq_true rfl) dX10_feed_14
theorem dX10_end_0 : decode cX10_end 0 = .ok (.iload_n 1, 1) := by decide +kernel
theorem dX10_end_1 : decode cX10_end 1 = .ok (.ifCond .lt 11, 3) := by decide +kernel
theorem dX10_end_12 : decode cX10_end 12 = .ok (.iconst (-1), 1) := by decide +kernel
theorem dX10_end_13 : decode cX10_end 13 = .ok (.ireturn, 1) := by decide +kernel
theorem dX10_end_4 : decode cX10_end 4 = .ok (.iload_n 1, 1) := by decide +kernel
theorem dX10_end_5 : decode cX10_end 5 = .ok (.aload_n 0, 1) := by decide +kernel
theorem dX10_end_6 : decode cX10_end 6 = .ok (.getfield 237, 3) := by decide +kernel
theorem dX10_end_9 : decode cX10_end 9 = .ok (.if_icmp .le 5, 3) := by decide +kernel
theorem dX10_end_14 : decode cX10_end 14 = .ok (.aload_n 0, 1) := by decide +kernel
theorem dX10_end_15 : decode cX10_end 15 = .ok (.iload_n 1, 1) := by decide +kernel
theorem dX10_end_16 : decode cX10_end 16 = .ok (.putfield 237, 3) := by decide +kernel
theorem dX10_end_19 : decode cX10_end 19 = .ok (.iload_n 1, 1) := by decide +kernel
theorem dX10_end_20 : decode cX10_end 20 = .ok (.ireturn, 1) := by decide +kernel
set_option maxHeartbeats 4000000 in
set_option maxRecDepth 100000 in
theorem c2_X10_end (l : Launch) (G : va_G) (cI cJ cB cZ : ClassId) (a0 a1 a2 a3 a4 a5 a6 a7 a8 a9 a10 a11 a12 a13 a14 a15 a16 a17 a18 a19 a20 a21 a22 a23 a24 a25 a26 a27 a28 a29 a30 a31 a32 a33 a34 a35 a36 a37 a38 a39 a40 a41 a42 : Nat) (b1 : Int32) (v_m_2 : Int32) (v_m_3 : Int32) (v_m_4 : Int32) (v_m_5 : Int32) (v_m_6 : Int32) (v_m_7 : Int32) (v_m_8 : Int32) (v_m_9 : Int32) (w_m_10 : Int64) (v_m_41 : Int32) (v_m_44 : Int32) (v_m_45 : Int32) (v_m_46 : Int32) (v_m_47 : Int32) (v_m_49 : Int32) (v_m_53 : Int32) (v_m_54 : Int32) (v_m_55 : Int32) (v_m_56 : Int32) (v_m_57 : Int32) (v_m_58 : Int32) (v_m_59 : Int32) (v_m_60 : Int32) (v_m_62 : Int32) (v_m_67 : Int32) (v_m_68 : Int32) (hv_0 : 0 ≤ v_m_2.toInt) (hv_1 : v_m_2.toInt ≤ 1300) (hv_2 : 0 ≤ v_m_3.toInt) (hv_3 : v_m_3.toInt ≤ 1300) (hv_4 : 0 ≤ v_m_4.toInt) (hv_5 : v_m_4.toInt ≤ 5) (hv_6 : 0 ≤ v_m_6.toInt) (hv_7 : v_m_6.toInt ≤ 1300) (hv_8 : 0 ≤ v_m_7.toInt) (hv_9 : v_m_7.toInt ≤ 1301) (hv_10 : 0 ≤ v_m_8.toInt) (hv_11 : v_m_8.toInt ≤ 5) (hv_12 : 0 ≤ v_m_9.toInt) (hv_13 : v_m_9.toInt ≤ 9999) (hv_14 : 0 ≤ v_m_41.toInt) (hv_15 : v_m_41.toInt ≤ 1) (hv_16 : 0 ≤ v_m_44.toInt) (hv_17 : v_m_44.toInt ≤ 30) (hv_18 : 0 ≤ v_m_47.toInt) (hv_19 : v_m_47.toInt ≤ 1) (hv_20 : 0 ≤ v_m_49.toInt) (hv_21 : v_m_49.toInt ≤ 46) (hv_22 : 0 ≤ v_m_53.toInt) (hv_23 : v_m_53.toInt ≤ 300000) (hv_24 : 0 ≤ v_m_55.toInt) (hv_25 : v_m_55.toInt ≤ 300109) (hv_26 : v_m_56.toInt ≤ 300000) (hv_27 : 0 ≤ v_m_57.toInt) (hv_28 : v_m_57.toInt ≤ 1) (hv_29 : 0 ≤ v_m_60.toInt) (hv_30 : v_m_60.toInt ≤ 1) : Con l G (TY cI cJ cB cZ) yX10_end cX10_end 2 (some .int) ({ frames := 0, cells := 0, slots := 0, locals := 0 } : Room) [.ref a0, .int b1] [(a0, .inr (10, [.ref a1, .ref a2, .int v_m_2, .int v_m_3, .int v_m_4, .int v_m_5, .int v_m_6, .int v_m_7, .int v_m_8, .int v_m_9, .long w_m_10, .ref a3, .ref a4, .ref a5, .ref a6, .ref a7, .ref a8, .ref a9, .ref a10, .ref a11, .ref a12, .ref a13, .ref a14, .ref a15, .ref a16, .ref a17, .ref a18, .ref a19, .ref a20, .ref a21, .ref a22, .ref a23, .ref a24, .ref a25, .ref a26, .ref a27, .ref a28, .ref a29, .ref a30, .ref a31, .int 0, .int v_m_41, .ref a32, .ref a33, .int v_m_44, .int v_m_45, .int v_m_46, .int v_m_47, .ref a34, .int v_m_49, .ref a35, .ref a36, .ref a37, .int v_m_53, .int v_m_54, .int v_m_55, .int v_m_56, .int v_m_57, .int v_m_58, .int v_m_59, .int v_m_60, .ref a38, .int v_m_62, .ref a39, .ref a40, .ref a41, .ref a42, .int v_m_67, .int v_m_68]))] (QI G (TY cI cJ cB cZ) (fun (r : Int32) (u : Int32) => ((-1) ≤ r.toInt ∧ r.toInt ≤ 1300 ∧ 0 ≤ u.toInt ∧ u.toInt ≤ 1300)) (fun u : Int32 => [(a0, .inr (10, [.ref a1, .ref a2, .int u, .int v_m_3, .int v_m_4, .int v_m_5, .int v_m_6, .int v_m_7, .int v_m_8, .int v_m_9, .long w_m_10, .ref a3, .ref a4, .ref a5, .ref a6, .ref a7, .ref a8, .ref a9, .ref a10, .ref a11, .ref a12, .ref a13, .ref a14, .ref a15, .ref a16, .ref a17, .ref a18, .ref a19, .ref a20, .ref a21, .ref a22, .ref a23, .ref a24, .ref a25, .ref a26, .ref a27, .ref a28, .ref a29, .ref a30, .ref a31, .int 0, .int v_m_41, .ref a32, .ref a33, .int v_m_44, .int v_m_45, .int v_m_46, .int v_m_47, .ref a34, .int v_m_49, .ref a35, .ref a36, .ref a37, .int v_m_53, .int v_m_54, .int v_m_55, .int v_m_56, .int v_m_57, .int v_m_58, .int v_m_59, .int v_m_60, .ref a38, .int v_m_62, .ref a39, .ref a40, .ref a41, .ref a42, .int v_m_67, .int v_m_68]))])) := by
  refine k_met (by decide) (Nat.le_of_ble_eq_true rfl) ?_
  intro p e s m below meth c A ls hC hr hlk hnm hN hZ hK hA hP hD hS hl
  have hl : lv_has ls 2 [(0, .ref a0), (1, .int b1)] := hl
  generalize hQm : MQ below _ _ s _ _ A = Qm
  generalize (List.toArray _ : Array Value) = args at hC hQm ⊢
  obtain ⟨hx, hb, hml, hown, hts⟩ := id hC
  obtain ⟨H, hH⟩ : ∃ q, q = s.heap := ⟨_, rfl⟩
  obtain ⟨locs, hlo⟩ : ∃ q : List Loc, q = [] := ⟨_, rfl⟩
  have hP : va_P G cl [(a0, .inr (10, [.ref a1, .ref a2, .int v_m_2, .int v_m_3, .int v_m_4, .int v_m_5, .int v_m_6, .int v_m_7, .int v_m_8, .int v_m_9, .long w_m_10, .ref a3, .ref a4, .ref a5, .ref a6, .ref a7, .ref a8, .ref a9, .ref a10, .ref a11, .ref a12, .ref a13, .ref a14, .ref a15, .ref a16, .ref a17, .ref a18, .ref a19, .ref a20, .ref a21, .ref a22, .ref a23, .ref a24, .ref a25, .ref a26, .ref a27, .ref a28, .ref a29, .ref a30, .ref a31, .int 0, .int v_m_41, .ref a32, .ref a33, .int v_m_44, .int v_m_45, .int v_m_46, .int v_m_47, .ref a34, .int v_m_49, .ref a35, .ref a36, .ref a37, .int v_m_53, .int v_m_54, .int v_m_55, .int v_m_56, .int v_m_57, .int v_m_58, .int v_m_59, .int v_m_60, .ref a38, .int v_m_62, .ref a39, .ref a40, .ref a41, .ref a42, .int v_m_67, .int v_m_68]))] H := by rw [hH]; exact hP
  have hS : va_S A s.heap H locs := by rw [hH, hlo]; exact hS
  rw [← hlo]
  rw [← hH]
  refine lv_iload_n hx hb dX10_end_0 rfl (lv_at hl 1 rfl) ?_
  refine lv_if_lt (tgt := 12) hx hb dX10_end_1 (by decide) (fun c1 => ?_) (fun c1 => ?_)
  · have dc1 : b1.toInt < 0 := (fa_lt _ _).mp c1; have lbc1_0 := i_lo b1; have ubc1_0 := i_hi b1
    refine lv_iconst (v := (-1)) hx hb dX10_end_12 (by decide) ?_
    have l_l2 : ((-1) : Int32).toInt = (-1) := rfl
    rw [← hQm]
    exact k_iret hC hr hlk hK hP hD hS v_m_2 [0] rfl (by decide +kernel) (show (-1) ≤ ((-1) : Int32).toInt ∧ ((-1) : Int32).toInt ≤ 1300 ∧ 0 ≤ v_m_2.toInt ∧ v_m_2.toInt ≤ 1300 from by omega) (Nat.le_of_ble_eq_true rfl) (Nat.le_of_ble_eq_true rfl) dX10_end_13
  · have dc1 : 0 ≤ b1.toInt := fa_nlt c1; have lbc1_0 := i_lo b1; have ubc1_0 := i_hi b1
    refine lv_iload_n hx hb dX10_end_4 rfl (lv_at hl 1 rfl) ?_
    refine lv_aload_n hx hb dX10_end_5 rfl (lv_at hl 0 rfl) ?_
    refine k_get hC hK hP iX10 0 2 wf_X10_237 rfl (by decide) rfl rfl dX10_end_6 ?_
    refine lv_icmp_le (tgt := 14) hx hb dX10_end_9 (by decide) (fun c3 => ?_) (fun c3 => ?_)
    · have dc3 : b1.toInt ≤ v_m_2.toInt := (fa_le _ _).mp c3; have ubc3_0 := i_hi b1
      refine lv_aload_n hx hb dX10_end_14 rfl (lv_at hl 0 rfl) ?_
      refine lv_iload_n hx hb dX10_end_15 rfl (lv_at hl 1 rfl) ?_
      refine k_put hC hK hP hD hS iX10 tyX10_ok nmX10 0 2 wf_X10_237 rfl (by decide) rfl rfl rfl rfl (Nat.le_of_ble_eq_true rfl) dX10_end_16 (fun H locs hP hD hS => ?_)
      have hP : va_P G cl [(a0, .inr (10, [.ref a1, .ref a2, .int b1, .int v_m_3, .int v_m_4, .int v_m_5, .int v_m_6, .int v_m_7, .int v_m_8, .int v_m_9, .long w_m_10, .ref a3, .ref a4, .ref a5, .ref a6, .ref a7, .ref a8, .ref a9, .ref a10, .ref a11, .ref a12, .ref a13, .ref a14, .ref a15, .ref a16, .ref a17, .ref a18, .ref a19, .ref a20, .ref a21, .ref a22, .ref a23, .ref a24, .ref a25, .ref a26, .ref a27, .ref a28, .ref a29, .ref a30, .ref a31, .int 0, .int v_m_41, .ref a32, .ref a33, .int v_m_44, .int v_m_45, .int v_m_46, .int v_m_47, .ref a34, .int v_m_49, .ref a35, .ref a36, .ref a37, .int v_m_53, .int v_m_54, .int v_m_55, .int v_m_56, .int v_m_57, .int v_m_58, .int v_m_59, .int v_m_60, .ref a38, .int v_m_62, .ref a39, .ref a40, .ref a41, .ref a42, .int v_m_67, .int v_m_68]))] H := hP
      have hD : va_D A [(a0, .inr (10, [.ref a1, .ref a2, .int b1, .int v_m_3, .int v_m_4, .int v_m_5, .int v_m_6, .int v_m_7, .int v_m_8, .int v_m_9, .long w_m_10, .ref a3, .ref a4, .ref a5, .ref a6, .ref a7, .ref a8, .ref a9, .ref a10, .ref a11, .ref a12, .ref a13, .ref a14, .ref a15, .ref a16, .ref a17, .ref a18, .ref a19, .ref a20, .ref a21, .ref a22, .ref a23, .ref a24, .ref a25, .ref a26, .ref a27, .ref a28, .ref a29, .ref a30, .ref a31, .int 0, .int v_m_41, .ref a32, .ref a33, .int v_m_44, .int v_m_45, .int v_m_46, .int v_m_47, .ref a34, .int v_m_49, .ref a35, .ref a36, .ref a37, .int v_m_53, .int v_m_54, .int v_m_55, .int v_m_56, .int v_m_57, .int v_m_58, .int v_m_59, .int v_m_60, .ref a38, .int v_m_62, .ref a39, .ref a40, .ref a41, .ref a42, .int v_m_67, .int v_m_68]))] := hD
      refine lv_iload_n hx hb dX10_end_19 rfl (lv_at hl 1 rfl) ?_
      rw [← hQm]
      exact k_iret hC hr hlk hK hP hD hS b1 [0] rfl (by decide +kernel) (show (-1) ≤ b1.toInt ∧ b1.toInt ≤ 1300 ∧ 0 ≤ b1.toInt ∧ b1.toInt ≤ 1300 from by omega) (Nat.le_of_ble_eq_true rfl) (Nat.le_of_ble_eq_true rfl) dX10_end_20
    · have dc3 : v_m_2.toInt < b1.toInt := fa_nle c3; have ubc3_0 := i_hi b1
      refine lv_iconst (v := (-1)) hx hb dX10_end_12 (by decide) ?_
      have l_l4 : ((-1) : Int32).toInt = (-1) := rfl
      rw [← hQm]
      exact k_iret hC hr hlk hK hP hD hS v_m_2 [0] rfl (by decide +kernel) (show (-1) ≤ ((-1) : Int32).toInt ∧ ((-1) : Int32).toInt ≤ 1300 ∧ 0 ≤ v_m_2.toInt ∧ v_m_2.toInt ≤ 1300 from by omega) (Nat.le_of_ble_eq_true rfl) (Nat.le_of_ble_eq_true rfl) dX10_end_13
theorem dX10_fault_0 : decode cX10_fault 0 = .ok (.iload_n 1, 1) := by decide +kernel
theorem dX10_fault_1 : decode cX10_fault 1 = .ok (.ifCond .ne 10, 3) := by decide +kernel
theorem dX10_fault_11 : decode cX10_fault 11 = .ok (.iload_n 1, 1) := by decide +kernel
theorem dX10_fault_12 : decode cX10_fault 12 = .ok (.iconst 1, 1) := by decide +kernel
theorem dX10_fault_13 : decode cX10_fault 13 = .ok (.if_icmp .ne 10, 3) := by decide +kernel
theorem dX10_fault_23 : decode cX10_fault 23 = .ok (.iconst (-1), 1) := by decide +kernel
theorem dX10_fault_24 : decode cX10_fault 24 = .ok (.ireturn, 1) := by decide +kernel
theorem dX10_fault_16 : decode cX10_fault 16 = .ok (.aload_n 0, 1) := by decide +kernel
theorem dX10_fault_17 : decode cX10_fault 17 = .ok (.getfield 14, 3) := by decide +kernel
set_option maxRecDepth 100000 in
theorem wf_X10_14 : Cond.fieldLink RX10 14 "StoneTrustModel" "faultPlace" "I" ∈ gw := gm (List.mem_of_getElem? (i := 1260) (by decide +kernel)) rfl
theorem dX10_fault_20 : decode cX10_fault 20 = .ok (.goto 4, 3) := by decide +kernel
theorem dX10_fault_4 : decode cX10_fault 4 = .ok (.aload_n 0, 1) := by decide +kernel
theorem dX10_fault_5 : decode cX10_fault 5 = .ok (.getfield 11, 3) := by decide +kernel
set_option maxRecDepth 100000 in
theorem wf_X10_11 : Cond.fieldLink RX10 11 "StoneTrustModel" "faultKind" "I" ∈ gw := gm (List.mem_of_getElem? (i := 1259) (by decide +kernel)) rfl
theorem dX10_fault_8 : decode cX10_fault 8 = .ok (.goto 16, 3) := by decide +kernel
set_option maxHeartbeats 4000000 in
set_option maxRecDepth 100000 in
theorem c3_X10_fault (l : Launch) (G : va_G) (cI cJ cB cZ : ClassId) (a0 a1 a2 a3 a4 a5 a6 a7 a8 a9 a10 a11 a12 a13 a14 a15 a16 a17 a18 a19 a20 a21 a22 a23 a24 a25 a26 a27 a28 a29 a30 a31 a32 a33 a34 a35 a36 a37 a38 a39 a40 a41 a42 : Nat) (b1 : Int32) (v_m_2 : Int32) (v_m_3 : Int32) (v_m_4 : Int32) (v_m_5 : Int32) (v_m_6 : Int32) (v_m_7 : Int32) (v_m_8 : Int32) (v_m_9 : Int32) (w_m_10 : Int64) (v_m_41 : Int32) (v_m_44 : Int32) (v_m_45 : Int32) (v_m_46 : Int32) (v_m_47 : Int32) (v_m_49 : Int32) (v_m_53 : Int32) (v_m_54 : Int32) (v_m_55 : Int32) (v_m_56 : Int32) (v_m_57 : Int32) (v_m_58 : Int32) (v_m_59 : Int32) (v_m_60 : Int32) (v_m_62 : Int32) (v_m_67 : Int32) (v_m_68 : Int32) (hv_0 : 0 ≤ v_m_2.toInt) (hv_1 : v_m_2.toInt ≤ 1300) (hv_2 : 0 ≤ v_m_3.toInt) (hv_3 : v_m_3.toInt ≤ 1300) (hv_4 : 0 ≤ v_m_4.toInt) (hv_5 : v_m_4.toInt ≤ 5) (hv_6 : 0 ≤ v_m_6.toInt) (hv_7 : v_m_6.toInt ≤ 1300) (hv_8 : 0 ≤ v_m_7.toInt) (hv_9 : v_m_7.toInt ≤ 1301) (hv_10 : 0 ≤ v_m_8.toInt) (hv_11 : v_m_8.toInt ≤ 5) (hv_12 : 0 ≤ v_m_9.toInt) (hv_13 : v_m_9.toInt ≤ 9999) (hv_14 : 0 ≤ v_m_41.toInt) (hv_15 : v_m_41.toInt ≤ 1) (hv_16 : 0 ≤ v_m_44.toInt) (hv_17 : v_m_44.toInt ≤ 30) (hv_18 : 0 ≤ v_m_47.toInt) (hv_19 : v_m_47.toInt ≤ 1) (hv_20 : 0 ≤ v_m_49.toInt) (hv_21 : v_m_49.toInt ≤ 46) (hv_22 : 0 ≤ v_m_53.toInt) (hv_23 : v_m_53.toInt ≤ 300000) (hv_24 : 0 ≤ v_m_55.toInt) (hv_25 : v_m_55.toInt ≤ 300109) (hv_26 : v_m_56.toInt ≤ 300000) (hv_27 : 0 ≤ v_m_57.toInt) (hv_28 : v_m_57.toInt ≤ 1) (hv_29 : 0 ≤ v_m_60.toInt) (hv_30 : v_m_60.toInt ≤ 1) : Con l G (TY cI cJ cB cZ) yX10_fault cX10_fault 2 (some .int) ({ frames := 0, cells := 0, slots := 0, locals := 0 } : Room) [.ref a0, .int b1] [(a0, .inr (10, [.ref a1, .ref a2, .int v_m_2, .int v_m_3, .int v_m_4, .int v_m_5, .int v_m_6, .int v_m_7, .int v_m_8, .int v_m_9, .long w_m_10, .ref a3, .ref a4, .ref a5, .ref a6, .ref a7, .ref a8, .ref a9, .ref a10, .ref a11, .ref a12, .ref a13, .ref a14, .ref a15, .ref a16, .ref a17, .ref a18, .ref a19, .ref a20, .ref a21, .ref a22, .ref a23, .ref a24, .ref a25, .ref a26, .ref a27, .ref a28, .ref a29, .ref a30, .ref a31, .int 0, .int v_m_41, .ref a32, .ref a33, .int v_m_44, .int v_m_45, .int v_m_46, .int v_m_47, .ref a34, .int v_m_49, .ref a35, .ref a36, .ref a37, .int v_m_53, .int v_m_54, .int v_m_55, .int v_m_56, .int v_m_57, .int v_m_58, .int v_m_59, .int v_m_60, .ref a38, .int v_m_62, .ref a39, .ref a40, .ref a41, .ref a42, .int v_m_67, .int v_m_68]))] (QI G (TY cI cJ cB cZ) (fun (r : Int32) (u : Unit) => (True)) (fun u : Unit => [(a0, .inr (10, [.ref a1, .ref a2, .int v_m_2, .int v_m_3, .int v_m_4, .int v_m_5, .int v_m_6, .int v_m_7, .int v_m_8, .int v_m_9, .long w_m_10, .ref a3, .ref a4, .ref a5, .ref a6, .ref a7, .ref a8, .ref a9, .ref a10, .ref a11, .ref a12, .ref a13, .ref a14, .ref a15, .ref a16, .ref a17, .ref a18, .ref a19, .ref a20, .ref a21, .ref a22, .ref a23, .ref a24, .ref a25, .ref a26, .ref a27, .ref a28, .ref a29, .ref a30, .ref a31, .int 0, .int v_m_41, .ref a32, .ref a33, .int v_m_44, .int v_m_45, .int v_m_46, .int v_m_47, .ref a34, .int v_m_49, .ref a35, .ref a36, .ref a37, .int v_m_53, .int v_m_54, .int v_m_55, .int v_m_56, .int v_m_57, .int v_m_58, .int v_m_59, .int v_m_60, .ref a38, .int v_m_62, .ref a39, .ref a40, .ref a41, .ref a42, .int v_m_67, .int v_m_68]))])) := by
  refine k_met (by decide) (Nat.le_of_ble_eq_true rfl) ?_
  intro p e s m below meth c A ls hC hr hlk hnm hN hZ hK hA hP hD hS hl
  have hl : lv_has ls 2 [(0, .ref a0), (1, .int b1)] := hl
  generalize hQm : MQ below _ _ s _ _ A = Qm
  generalize (List.toArray _ : Array Value) = args at hC hQm ⊢
  obtain ⟨hx, hb, hml, hown, hts⟩ := id hC
  obtain ⟨H, hH⟩ : ∃ q, q = s.heap := ⟨_, rfl⟩
  obtain ⟨locs, hlo⟩ : ∃ q : List Loc, q = [] := ⟨_, rfl⟩
  have hP : va_P G cl [(a0, .inr (10, [.ref a1, .ref a2, .int v_m_2, .int v_m_3, .int v_m_4, .int v_m_5, .int v_m_6, .int v_m_7, .int v_m_8, .int v_m_9, .long w_m_10, .ref a3, .ref a4, .ref a5, .ref a6, .ref a7, .ref a8, .ref a9, .ref a10, .ref a11, .ref a12, .ref a13, .ref a14, .ref a15, .ref a16, .ref a17, .ref a18, .ref a19, .ref a20, .ref a21, .ref a22, .ref a23, .ref a24, .ref a25, .ref a26, .ref a27, .ref a28, .ref a29, .ref a30, .ref a31, .int 0, .int v_m_41, .ref a32, .ref a33, .int v_m_44, .int v_m_45, .int v_m_46, .int v_m_47, .ref a34, .int v_m_49, .ref a35, .ref a36, .ref a37, .int v_m_53, .int v_m_54, .int v_m_55, .int v_m_56, .int v_m_57, .int v_m_58, .int v_m_59, .int v_m_60, .ref a38, .int v_m_62, .ref a39, .ref a40, .ref a41, .ref a42, .int v_m_67, .int v_m_68]))] H := by rw [hH]; exact hP
  have hS : va_S A s.heap H locs := by rw [hH, hlo]; exact hS
  rw [← hlo]
  rw [← hH]
  refine lv_iload_n hx hb dX10_fault_0 rfl (lv_at hl 1 rfl) ?_
  refine lv_if_ne (tgt := 11) hx hb dX10_fault_1 (by decide) (fun c1 => ?_) (fun c1 => ?_)
  · have dc1 : b1.toInt ≠ 0 := fa_ne c1; have lbc1_0 := i_lo b1; have ubc1_0 := i_hi b1
    refine lv_iload_n hx hb dX10_fault_11 rfl (lv_at hl 1 rfl) ?_
    refine lv_iconst (v := 1) hx hb dX10_fault_12 (by decide) ?_
    refine lv_icmp_ne (tgt := 23) hx hb dX10_fault_13 (by decide) (fun c2 => ?_) (fun c2 => ?_)
    · have dc2 : b1.toInt ≠ 1 := fa_ne c2; have lbc2_0 := i_lo b1; have ubc2_0 := i_hi b1
      refine lv_iconst (v := (-1)) hx hb dX10_fault_23 (by decide) ?_
      have l_l3 : ((-1) : Int32).toInt = (-1) := rfl
      rw [← hQm]
      exact k_iret hC hr hlk hK hP hD hS () [0] rfl (by decide +kernel) trivial (Nat.le_of_ble_eq_true rfl) (Nat.le_of_ble_eq_true rfl) dX10_fault_24
    · have dc2 : b1.toInt = 1 := (fa_eq _ _).mp c2; have lbc2_0 := i_lo b1; have ubc2_0 := i_hi b1
      refine lv_aload_n hx hb dX10_fault_16 rfl (lv_at hl 0 rfl) ?_
      refine k_get hC hK hP iX10 0 5 wf_X10_14 rfl (by decide) rfl rfl dX10_fault_17 ?_
      refine lv_goto (tgt := 24) hx hb dX10_fault_20 (by decide) ?_
      rw [← hQm]
      exact k_iret hC hr hlk hK hP hD hS () [0] rfl (by decide +kernel) trivial (Nat.le_of_ble_eq_true rfl) (Nat.le_of_ble_eq_true rfl) dX10_fault_24
  · have dc1 : b1.toInt = 0 := (fa_eq _ _).mp c1; have lbc1_0 := i_lo b1; have ubc1_0 := i_hi b1
    refine lv_aload_n hx hb dX10_fault_4 rfl (lv_at hl 0 rfl) ?_
    refine k_get hC hK hP iX10 0 4 wf_X10_11 rfl (by decide) rfl rfl dX10_fault_5 ?_
    refine lv_goto (tgt := 24) hx hb dX10_fault_8 (by decide) ?_
    rw [← hQm]
    exact k_iret hC hr hlk hK hP hD hS () [0] rfl (by decide +kernel) trivial (Nat.le_of_ble_eq_true rfl) (Nat.le_of_ble_eq_true rfl) dX10_fault_24
theorem dX10_many_0 : decode cX10_many 0 = .ok (.aload_n 0, 1) := by decide +kernel
theorem dX10_many_1 : decode cX10_many 1 = .ok (.getfield 138, 3) := by decide +kernel
set_option maxRecDepth 100000 in
theorem wf_X10_138 : Cond.fieldLink RX10 138 "StoneTrustModel" "stones" "[I" ∈ gw := gm (List.mem_of_getElem? (i := 1275) (by decide +kernel)) rfl
theorem dX10_many_4 : decode cX10_many 4 = .ok (.aload_n 0, 1) := by decide +kernel
theorem dX10_many_5 : decode cX10_many 5 = .ok (.getfield 240, 3) := by decide +kernel
set_option maxRecDepth 100000 in
theorem wf_X10_240 : Cond.fieldLink RX10 240 "StoneTrustModel" "bank" "I" ∈ gw := gm (List.mem_of_getElem? (i := 1295) (by decide +kernel)) rfl
theorem dX10_many_8 : decode cX10_many 8 = .ok (.iaload, 1) := by decide +kernel
theorem dX10_many_9 : decode cX10_many 9 = .ok (.ireturn, 1) := by decide +kernel
set_option maxHeartbeats 4000000 in
set_option maxRecDepth 100000 in
theorem c4_X10_many (l : Launch) (G : va_G) (cI cJ cB cZ : ClassId) (a0 a1 a2 a3 a4 a5 a6 a7 a8 a9 a10 a11 a12 a13 a14 a15 a16 a17 a18 a19 a20 a21 a22 a23 a24 a25 a26 a27 a28 a29 a30 a31 a32 a33 a34 a35 a36 a37 a38 a39 a40 a41 a42 : Nat) (v_m_2 : Int32) (v_m_3 : Int32) (v_m_4 : Int32) (v_m_5 : Int32) (v_m_6 : Int32) (v_m_7 : Int32) (v_m_8 : Int32) (v_m_9 : Int32) (w_m_10 : Int64) (v_m_41 : Int32) (v_m_44 : Int32) (v_m_45 : Int32) (v_m_46 : Int32) (v_m_47 : Int32) (v_m_49 : Int32) (v_m_53 : Int32) (v_m_54 : Int32) (v_m_55 : Int32) (v_m_56 : Int32) (v_m_57 : Int32) (v_m_58 : Int32) (v_m_59 : Int32) (v_m_60 : Int32) (v_m_62 : Int32) (v_m_67 : Int32) (v_m_68 : Int32) (v_m_stones_0 : Int32) (v_m_stones_1 : Int32) (hv_0 : 0 ≤ v_m_2.toInt) (hv_1 : v_m_2.toInt ≤ 1300) (hv_2 : 0 ≤ v_m_3.toInt) (hv_3 : v_m_3.toInt ≤ 1300) (hv_4 : 0 ≤ v_m_4.toInt) (hv_5 : v_m_4.toInt ≤ 5) (hv_6 : 0 ≤ v_m_6.toInt) (hv_7 : v_m_6.toInt ≤ 1300) (hv_8 : 0 ≤ v_m_7.toInt) (hv_9 : v_m_7.toInt ≤ 1301) (hv_10 : 0 ≤ v_m_8.toInt) (hv_11 : v_m_8.toInt ≤ 5) (hv_12 : 0 ≤ v_m_9.toInt) (hv_13 : v_m_9.toInt ≤ 9999) (hv_14 : 0 ≤ v_m_41.toInt) (hv_15 : v_m_41.toInt ≤ 1) (hv_16 : 0 ≤ v_m_44.toInt) (hv_17 : v_m_44.toInt ≤ 30) (hv_18 : 0 ≤ v_m_47.toInt) (hv_19 : v_m_47.toInt ≤ 1) (hv_20 : 0 ≤ v_m_49.toInt) (hv_21 : v_m_49.toInt ≤ 46) (hv_22 : 0 ≤ v_m_53.toInt) (hv_23 : v_m_53.toInt ≤ 300000) (hv_24 : 0 ≤ v_m_55.toInt) (hv_25 : v_m_55.toInt ≤ 300109) (hv_26 : v_m_56.toInt ≤ 300000) (hv_27 : 0 ≤ v_m_57.toInt) (hv_28 : v_m_57.toInt ≤ 1) (hv_29 : 0 ≤ v_m_60.toInt) (hv_30 : v_m_60.toInt ≤ 1) (hv_31 : 0 ≤ v_m_stones_0.toInt) (hv_32 : v_m_stones_0.toInt ≤ 6) (hv_33 : 0 ≤ v_m_stones_1.toInt) (hv_34 : v_m_stones_1.toInt ≤ 6) : Con l G (TY cI cJ cB cZ) yX10_many cX10_many 1 (some .int) ({ frames := 0, cells := 0, slots := 0, locals := 0 } : Room) [.ref a0] [(a0, .inr (10, [.ref a1, .ref a2, .int v_m_2, .int v_m_3, .int v_m_4, .int v_m_5, .int v_m_6, .int v_m_7, .int v_m_8, .int v_m_9, .long w_m_10, .ref a3, .ref a4, .ref a5, .ref a6, .ref a7, .ref a8, .ref a9, .ref a10, .ref a11, .ref a12, .ref a13, .ref a14, .ref a15, .ref a16, .ref a17, .ref a18, .ref a19, .ref a20, .ref a21, .ref a22, .ref a23, .ref a24, .ref a25, .ref a26, .ref a27, .ref a28, .ref a29, .ref a30, .ref a31, .int 0, .int v_m_41, .ref a32, .ref a33, .int v_m_44, .int v_m_45, .int v_m_46, .int v_m_47, .ref a34, .int v_m_49, .ref a35, .ref a36, .ref a37, .int v_m_53, .int v_m_54, .int v_m_55, .int v_m_56, .int v_m_57, .int v_m_58, .int v_m_59, .int v_m_60, .ref a38, .int v_m_62, .ref a39, .ref a40, .ref a41, .ref a42, .int v_m_67, .int v_m_68])), (a12, .inl (cI, 2, .inl (ex2 v_m_stones_0 v_m_stones_1)))] (QI G (TY cI cJ cB cZ) (fun (r : Int32) (u : Unit) => (0 ≤ r.toInt ∧ r.toInt ≤ 6 ∧ (r.toInt = v_m_stones_0.toInt))) (fun u : Unit => [(a0, .inr (10, [.ref a1, .ref a2, .int v_m_2, .int v_m_3, .int v_m_4, .int v_m_5, .int v_m_6, .int v_m_7, .int v_m_8, .int v_m_9, .long w_m_10, .ref a3, .ref a4, .ref a5, .ref a6, .ref a7, .ref a8, .ref a9, .ref a10, .ref a11, .ref a12, .ref a13, .ref a14, .ref a15, .ref a16, .ref a17, .ref a18, .ref a19, .ref a20, .ref a21, .ref a22, .ref a23, .ref a24, .ref a25, .ref a26, .ref a27, .ref a28, .ref a29, .ref a30, .ref a31, .int 0, .int v_m_41, .ref a32, .ref a33, .int v_m_44, .int v_m_45, .int v_m_46, .int v_m_47, .ref a34, .int v_m_49, .ref a35, .ref a36, .ref a37, .int v_m_53, .int v_m_54, .int v_m_55, .int v_m_56, .int v_m_57, .int v_m_58, .int v_m_59, .int v_m_60, .ref a38, .int v_m_62, .ref a39, .ref a40, .ref a41, .ref a42, .int v_m_67, .int v_m_68])), (a12, .inl (cI, 2, .inl (ex2 v_m_stones_0 v_m_stones_1)))])) := by
  refine k_met (by decide) (Nat.le_of_ble_eq_true rfl) ?_
  intro p e s m below meth c A ls hC hr hlk hnm hN hZ hK hA hP hD hS hl
  have hl : lv_has ls 1 [(0, .ref a0)] := hl
  generalize hQm : MQ below _ _ s _ _ A = Qm
  generalize (List.toArray _ : Array Value) = args at hC hQm ⊢
  obtain ⟨hx, hb, hml, hown, hts⟩ := id hC
  obtain ⟨H, hH⟩ : ∃ q, q = s.heap := ⟨_, rfl⟩
  obtain ⟨locs, hlo⟩ : ∃ q : List Loc, q = [] := ⟨_, rfl⟩
  have hP : va_P G cl [(a0, .inr (10, [.ref a1, .ref a2, .int v_m_2, .int v_m_3, .int v_m_4, .int v_m_5, .int v_m_6, .int v_m_7, .int v_m_8, .int v_m_9, .long w_m_10, .ref a3, .ref a4, .ref a5, .ref a6, .ref a7, .ref a8, .ref a9, .ref a10, .ref a11, .ref a12, .ref a13, .ref a14, .ref a15, .ref a16, .ref a17, .ref a18, .ref a19, .ref a20, .ref a21, .ref a22, .ref a23, .ref a24, .ref a25, .ref a26, .ref a27, .ref a28, .ref a29, .ref a30, .ref a31, .int 0, .int v_m_41, .ref a32, .ref a33, .int v_m_44, .int v_m_45, .int v_m_46, .int v_m_47, .ref a34, .int v_m_49, .ref a35, .ref a36, .ref a37, .int v_m_53, .int v_m_54, .int v_m_55, .int v_m_56, .int v_m_57, .int v_m_58, .int v_m_59, .int v_m_60, .ref a38, .int v_m_62, .ref a39, .ref a40, .ref a41, .ref a42, .int v_m_67, .int v_m_68])), (a12, .inl (cI, 2, .inl (ex2 v_m_stones_0 v_m_stones_1)))] H := by rw [hH]; exact hP
  have hS : va_S A s.heap H locs := by rw [hH, hlo]; exact hS
  rw [← hlo]
  rw [← hH]
  refine lv_aload_n hx hb dX10_many_0 rfl (lv_at hl 0 rfl) ?_
  refine k_get hC hK hP iX10 0 20 wf_X10_138 rfl (by decide) rfl rfl dX10_many_1 ?_
  refine lv_aload_n hx hb dX10_many_4 rfl (lv_at hl 0 rfl) ?_
  refine k_get hC hK hP iX10 0 40 wf_X10_240 rfl (by decide) rfl rfl dX10_many_5 ?_
  refine k_iald (v := v_m_stones_0) hC hK hP 1 0 rfl (by decide +kernel) (by decide) rfl dX10_many_8 ?_
  rw [← hQm]
  exact k_iret hC hr hlk hK hP hD hS () [0, 1] rfl (by decide +kernel) (show 0 ≤ v_m_stones_0.toInt ∧ v_m_stones_0.toInt ≤ 6 ∧ (v_m_stones_0.toInt = v_m_stones_0.toInt) from by omega) (Nat.le_of_ble_eq_true rfl) (Nat.le_of_ble_eq_true rfl) dX10_many_9
theorem dX10_isSet_0 : decode cX10_isSet 0 = .ok (.iload_n 1, 1) := by decide +kernel
theorem dX10_isSet_1 : decode cX10_isSet 1 = .ok (.ifCond .le 17, 3) := by decide +kernel
theorem dX10_isSet_18 : decode cX10_isSet 18 = .ok (.iconst 0, 1) := by decide +kernel
theorem dX10_isSet_19 : decode cX10_isSet 19 = .ok (.ireturn, 1) := by decide +kernel
theorem dX10_isSet_4 : decode cX10_isSet 4 = .ok (.iload_n 1, 1) := by decide +kernel
theorem dX10_isSet_5 : decode cX10_isSet 5 = .ok (.iconst 1, 1) := by decide +kernel
theorem dX10_isSet_6 : decode cX10_isSet 6 = .ok (.aload_n 0, 1) := by decide +kernel
theorem dX10_isSet_7 : decode cX10_isSet 7 = .ok (.invokevirtual 304, 3) := by decide +kernel
set_option maxRecDepth 100000 in
theorem wm_X10_304 : Cond.methodLink RX10 304 yX10_many ∈ gw := gm (List.mem_of_getElem? (i := 1591) (by decide +kernel)) rfl
set_option maxRecDepth 100000 in
theorem mi_X10_many : MI yX10_many cX10_many 1 (some .int) 0 := ⟨gm (List.mem_of_getElem? (i := 1594) rfl) rfl, gm (List.mem_of_getElem? (i := 124) (by decide +kernel)) rfl, by decide, by decide, by decide +kernel⟩
set_option maxRecDepth 100000 in
theorem in_X10_many : Cond.instanceMethod yX10_many ∈ gw := gm (List.mem_of_getElem? (i := 1593) (by decide +kernel)) rfl
set_option maxRecDepth 100000 in
theorem se_X10_many : Cond.selects yX10_many.cls yX10_many yX10_many ∈ gw := gm (List.mem_of_getElem? (i := 75) (by decide +kernel)) rfl
theorem dX10_isSet_10 : decode cX10_isSet 10 = .ok (.ishl, 1) := by decide +kernel
theorem dX10_isSet_11 : decode cX10_isSet 11 = .ok (.if_icmp .ge 7, 3) := by decide +kernel
theorem dX10_isSet_14 : decode cX10_isSet 14 = .ok (.iconst 1, 1) := by decide +kernel
theorem dX10_isSet_15 : decode cX10_isSet 15 = .ok (.goto 4, 3) := by decide +kernel
set_option maxHeartbeats 4000000 in
set_option maxRecDepth 100000 in
theorem c5_X10_isSet (l : Launch) (G : va_G) (cI cJ cB cZ : ClassId) (a0 a1 a2 a3 a4 a5 a6 a7 a8 a9 a10 a11 a12 a13 a14 a15 a16 a17 a18 a19 a20 a21 a22 a23 a24 a25 a26 a27 a28 a29 a30 a31 a32 a33 a34 a35 a36 a37 a38 a39 a40 a41 a42 : Nat) (b1 : Int32) (v_m_2 : Int32) (v_m_3 : Int32) (v_m_4 : Int32) (v_m_5 : Int32) (v_m_6 : Int32) (v_m_7 : Int32) (v_m_8 : Int32) (v_m_9 : Int32) (w_m_10 : Int64) (v_m_41 : Int32) (v_m_44 : Int32) (v_m_45 : Int32) (v_m_46 : Int32) (v_m_47 : Int32) (v_m_49 : Int32) (v_m_53 : Int32) (v_m_54 : Int32) (v_m_55 : Int32) (v_m_56 : Int32) (v_m_57 : Int32) (v_m_58 : Int32) (v_m_59 : Int32) (v_m_60 : Int32) (v_m_62 : Int32) (v_m_67 : Int32) (v_m_68 : Int32) (v_m_stones_0 : Int32) (v_m_stones_1 : Int32) (hv_0 : 0 ≤ v_m_2.toInt) (hv_1 : v_m_2.toInt ≤ 1300) (hv_2 : 0 ≤ v_m_3.toInt) (hv_3 : v_m_3.toInt ≤ 1300) (hv_4 : 0 ≤ v_m_4.toInt) (hv_5 : v_m_4.toInt ≤ 5) (hv_6 : 0 ≤ v_m_6.toInt) (hv_7 : v_m_6.toInt ≤ 1300) (hv_8 : 0 ≤ v_m_7.toInt) (hv_9 : v_m_7.toInt ≤ 1301) (hv_10 : 0 ≤ v_m_8.toInt) (hv_11 : v_m_8.toInt ≤ 5) (hv_12 : 0 ≤ v_m_9.toInt) (hv_13 : v_m_9.toInt ≤ 9999) (hv_14 : 0 ≤ v_m_41.toInt) (hv_15 : v_m_41.toInt ≤ 1) (hv_16 : 0 ≤ v_m_44.toInt) (hv_17 : v_m_44.toInt ≤ 30) (hv_18 : 0 ≤ v_m_47.toInt) (hv_19 : v_m_47.toInt ≤ 1) (hv_20 : 0 ≤ v_m_49.toInt) (hv_21 : v_m_49.toInt ≤ 46) (hv_22 : 0 ≤ v_m_53.toInt) (hv_23 : v_m_53.toInt ≤ 300000) (hv_24 : 0 ≤ v_m_55.toInt) (hv_25 : v_m_55.toInt ≤ 300109) (hv_26 : v_m_56.toInt ≤ 300000) (hv_27 : 0 ≤ v_m_57.toInt) (hv_28 : v_m_57.toInt ≤ 1) (hv_29 : 0 ≤ v_m_60.toInt) (hv_30 : v_m_60.toInt ≤ 1) (hv_31 : 0 ≤ v_m_stones_0.toInt) (hv_32 : v_m_stones_0.toInt ≤ 6) (hv_33 : 0 ≤ v_m_stones_1.toInt) (hv_34 : v_m_stones_1.toInt ≤ 6) : Con l G (TY cI cJ cB cZ) yX10_isSet cX10_isSet 2 (some .boolean) ({ frames := 1, cells := 0, slots := 0, locals := 20 } : Room) [.ref a0, .int b1] [(a0, .inr (10, [.ref a1, .ref a2, .int v_m_2, .int v_m_3, .int v_m_4, .int v_m_5, .int v_m_6, .int v_m_7, .int v_m_8, .int v_m_9, .long w_m_10, .ref a3, .ref a4, .ref a5, .ref a6, .ref a7, .ref a8, .ref a9, .ref a10, .ref a11, .ref a12, .ref a13, .ref a14, .ref a15, .ref a16, .ref a17, .ref a18, .ref a19, .ref a20, .ref a21, .ref a22, .ref a23, .ref a24, .ref a25, .ref a26, .ref a27, .ref a28, .ref a29, .ref a30, .ref a31, .int 0, .int v_m_41, .ref a32, .ref a33, .int v_m_44, .int v_m_45, .int v_m_46, .int v_m_47, .ref a34, .int v_m_49, .ref a35, .ref a36, .ref a37, .int v_m_53, .int v_m_54, .int v_m_55, .int v_m_56, .int v_m_57, .int v_m_58, .int v_m_59, .int v_m_60, .ref a38, .int v_m_62, .ref a39, .ref a40, .ref a41, .ref a42, .int v_m_67, .int v_m_68])), (a12, .inl (cI, 2, .inl (ex2 v_m_stones_0 v_m_stones_1)))] (QI G (TY cI cJ cB cZ) (fun (r : Int32) (u : Unit) => (0 ≤ r.toInt ∧ r.toInt ≤ 1)) (fun u : Unit => [(a0, .inr (10, [.ref a1, .ref a2, .int v_m_2, .int v_m_3, .int v_m_4, .int v_m_5, .int v_m_6, .int v_m_7, .int v_m_8, .int v_m_9, .long w_m_10, .ref a3, .ref a4, .ref a5, .ref a6, .ref a7, .ref a8, .ref a9, .ref a10, .ref a11, .ref a12, .ref a13, .ref a14, .ref a15, .ref a16, .ref a17, .ref a18, .ref a19, .ref a20, .ref a21, .ref a22, .ref a23, .ref a24, .ref a25, .ref a26, .ref a27, .ref a28, .ref a29, .ref a30, .ref a31, .int 0, .int v_m_41, .ref a32, .ref a33, .int v_m_44, .int v_m_45, .int v_m_46, .int v_m_47, .ref a34, .int v_m_49, .ref a35, .ref a36, .ref a37, .int v_m_53, .int v_m_54, .int v_m_55, .int v_m_56, .int v_m_57, .int v_m_58, .int v_m_59, .int v_m_60, .ref a38, .int v_m_62, .ref a39, .ref a40, .ref a41, .ref a42, .int v_m_67, .int v_m_68])), (a12, .inl (cI, 2, .inl (ex2 v_m_stones_0 v_m_stones_1)))])) := by
  refine k_met (by decide) (Nat.le_of_ble_eq_true rfl) ?_
  intro p e s m below meth c A ls hC hr hlk hnm hN hZ hK hA hP hD hS hl
  have hl : lv_has ls 2 [(0, .ref a0), (1, .int b1)] := hl
  generalize hQm : MQ below _ _ s _ _ A = Qm
  generalize (List.toArray _ : Array Value) = args at hC hQm ⊢
  obtain ⟨hx, hb, hml, hown, hts⟩ := id hC
  obtain ⟨H, hH⟩ : ∃ q, q = s.heap := ⟨_, rfl⟩
  obtain ⟨locs, hlo⟩ : ∃ q : List Loc, q = [] := ⟨_, rfl⟩
  have hP : va_P G cl [(a0, .inr (10, [.ref a1, .ref a2, .int v_m_2, .int v_m_3, .int v_m_4, .int v_m_5, .int v_m_6, .int v_m_7, .int v_m_8, .int v_m_9, .long w_m_10, .ref a3, .ref a4, .ref a5, .ref a6, .ref a7, .ref a8, .ref a9, .ref a10, .ref a11, .ref a12, .ref a13, .ref a14, .ref a15, .ref a16, .ref a17, .ref a18, .ref a19, .ref a20, .ref a21, .ref a22, .ref a23, .ref a24, .ref a25, .ref a26, .ref a27, .ref a28, .ref a29, .ref a30, .ref a31, .int 0, .int v_m_41, .ref a32, .ref a33, .int v_m_44, .int v_m_45, .int v_m_46, .int v_m_47, .ref a34, .int v_m_49, .ref a35, .ref a36, .ref a37, .int v_m_53, .int v_m_54, .int v_m_55, .int v_m_56, .int v_m_57, .int v_m_58, .int v_m_59, .int v_m_60, .ref a38, .int v_m_62, .ref a39, .ref a40, .ref a41, .ref a42, .int v_m_67, .int v_m_68])), (a12, .inl (cI, 2, .inl (ex2 v_m_stones_0 v_m_stones_1)))] H := by rw [hH]; exact hP
  have hS : va_S A s.heap H locs := by rw [hH, hlo]; exact hS
  rw [← hlo]
  rw [← hH]
  refine lv_iload_n hx hb dX10_isSet_0 rfl (lv_at hl 1 rfl) ?_
  refine lv_if_le (tgt := 18) hx hb dX10_isSet_1 (by decide) (fun c1 => ?_) (fun c1 => ?_)
  · have dc1 : b1.toInt ≤ 0 := (fa_le _ _).mp c1; have lbc1_0 := i_lo b1; have ubc1_0 := i_hi b1
    refine lv_iconst (v := 0) hx hb dX10_isSet_18 (by decide) ?_
    have l_l2 : (0 : Int32).toInt = 0 := rfl
    rw [← hQm]
    exact k_zret hC hr hlk hK hP hD hS () [0, 1] rfl (by decide +kernel) rfl (show 0 ≤ (0 : Int32).toInt ∧ (0 : Int32).toInt ≤ 1 from by omega) (Nat.le_of_ble_eq_true rfl) (Nat.le_of_ble_eq_true rfl) dX10_isSet_19
  · have dc1 : 0 < b1.toInt := fa_nle c1; have lbc1_0 := i_lo b1; have ubc1_0 := i_hi b1
    refine lv_iload_n hx hb dX10_isSet_4 rfl (lv_at hl 1 rfl) ?_
    refine lv_iconst (v := 1) hx hb dX10_isSet_5 (by decide) ?_
    refine lv_aload_n hx hb dX10_isSet_6 rfl (lv_at hl 0 rfl) ?_
    refine k_ci (wr := []) (k_rV hC hN hZ hS hA hK hP hD (c4_X10_many l G cI cJ cB cZ a0 a1 a2 a3 a4 a5 a6 a7 a8 a9 a10 a11 a12 a13 a14 a15 a16 a17 a18 a19 a20 a21 a22 a23 a24 a25 a26 a27 a28 a29 a30 a31 a32 a33 a34 a35 a36 a37 a38 a39 a40 a41 a42 v_m_2 v_m_3 v_m_4 v_m_5 v_m_6 v_m_7 v_m_8 v_m_9 w_m_10 v_m_41 v_m_44 v_m_45 v_m_46 v_m_47 v_m_49 v_m_53 v_m_54 v_m_55 v_m_56 v_m_57 v_m_58 v_m_59 v_m_60 v_m_62 v_m_67 v_m_68 v_m_stones_0 v_m_stones_1 hv_0 hv_1 hv_2 hv_3 hv_4 hv_5 hv_6 hv_7 hv_8 hv_9 hv_10 hv_11 hv_12 hv_13 hv_14 hv_15 hv_16 hv_17 hv_18 hv_19 hv_20 hv_21 hv_22 hv_23 hv_24 hv_25 hv_26 hv_27 hv_28 hv_29 hv_30 hv_31 hv_32 hv_33 hv_34) [0, 1] rfl (by decide +kernel) mi_X10_many in_X10_many se_X10_many wm_X10_304 10 0 rfl rfl rfl hl.1 rfl rfl (Nat.le_of_ble_eq_true rfl) ⟨(Nat.le_of_ble_eq_true rfl), (Nat.le_of_ble_eq_true rfl)⟩ dX10_isSet_7 ⟨(Nat.le_of_ble_eq_true rfl), (Nat.le_of_ble_eq_true rfl)⟩) hP hD hS hA [0, 1] [] rfl rfl (by decide +kernel) (by decide +kernel) (fun r3 u3 H locs hp hP hD hS => ?_)
    have hp : (0 ≤ r3.toInt ∧ r3.toInt ≤ 6 ∧ (r3.toInt = v_m_stones_0.toInt)) := hp
    have hP : va_P G cl [(a0, .inr (10, [.ref a1, .ref a2, .int v_m_2, .int v_m_3, .int v_m_4, .int v_m_5, .int v_m_6, .int v_m_7, .int v_m_8, .int v_m_9, .long w_m_10, .ref a3, .ref a4, .ref a5, .ref a6, .ref a7, .ref a8, .ref a9, .ref a10, .ref a11, .ref a12, .ref a13, .ref a14, .ref a15, .ref a16, .ref a17, .ref a18, .ref a19, .ref a20, .ref a21, .ref a22, .ref a23, .ref a24, .ref a25, .ref a26, .ref a27, .ref a28, .ref a29, .ref a30, .ref a31, .int 0, .int v_m_41, .ref a32, .ref a33, .int v_m_44, .int v_m_45, .int v_m_46, .int v_m_47, .ref a34, .int v_m_49, .ref a35, .ref a36, .ref a37, .int v_m_53, .int v_m_54, .int v_m_55, .int v_m_56, .int v_m_57, .int v_m_58, .int v_m_59, .int v_m_60, .ref a38, .int v_m_62, .ref a39, .ref a40, .ref a41, .ref a42, .int v_m_67, .int v_m_68])), (a12, .inl (cI, 2, .inl (ex2 v_m_stones_0 v_m_stones_1)))] H := hP
    have hD : va_D A [(a0, .inr (10, [.ref a1, .ref a2, .int v_m_2, .int v_m_3, .int v_m_4, .int v_m_5, .int v_m_6, .int v_m_7, .int v_m_8, .int v_m_9, .long w_m_10, .ref a3, .ref a4, .ref a5, .ref a6, .ref a7, .ref a8, .ref a9, .ref a10, .ref a11, .ref a12, .ref a13, .ref a14, .ref a15, .ref a16, .ref a17, .ref a18, .ref a19, .ref a20, .ref a21, .ref a22, .ref a23, .ref a24, .ref a25, .ref a26, .ref a27, .ref a28, .ref a29, .ref a30, .ref a31, .int 0, .int v_m_41, .ref a32, .ref a33, .int v_m_44, .int v_m_45, .int v_m_46, .int v_m_47, .ref a34, .int v_m_49, .ref a35, .ref a36, .ref a37, .int v_m_53, .int v_m_54, .int v_m_55, .int v_m_56, .int v_m_57, .int v_m_58, .int v_m_59, .int v_m_60, .ref a38, .int v_m_62, .ref a39, .ref a40, .ref a41, .ref a42, .int v_m_67, .int v_m_68])), (a12, .inl (cI, 2, .inl (ex2 v_m_stones_0 v_m_stones_1)))] := hD
    have hq3 := hp
    refine lv_ishl hx hb dX10_isSet_10 ?_
    refine t_i (fun q => 1 ≤ q.toInt ∧ q.toInt ≤ 64) (shl1_b (k := 6) (by decide) (by omega) (by omega)) (fun z4 tz4 => ?_)
    refine lv_icmp_ge (tgt := 18) hx hb dX10_isSet_11 (by decide) (fun c5 => ?_) (fun c5 => ?_)
    · have dc5 : z4.toInt ≤ b1.toInt := (fa_le _ _).mp c5; have ubc5_1 := i_hi b1
      refine lv_iconst (v := 0) hx hb dX10_isSet_18 (by decide) ?_
      have l_l6 : (0 : Int32).toInt = 0 := rfl
      rw [← hQm]
      exact k_zret hC hr hlk hK hP hD hS () [0, 1] rfl (by decide +kernel) rfl (show 0 ≤ (0 : Int32).toInt ∧ (0 : Int32).toInt ≤ 1 from by omega) (Nat.le_of_ble_eq_true rfl) (Nat.le_of_ble_eq_true rfl) dX10_isSet_19
    · have dc5 : b1.toInt < z4.toInt := fa_nle c5; have ubc5_1 := i_hi b1
      refine lv_iconst (v := 1) hx hb dX10_isSet_14 (by decide) ?_
      refine lv_goto (tgt := 19) hx hb dX10_isSet_15 (by decide) ?_
      have l_l7 : (1 : Int32).toInt = 1 := rfl
      rw [← hQm]
      exact k_zret hC hr hlk hK hP hD hS () [0, 1] rfl (by decide +kernel) rfl (show 0 ≤ (1 : Int32).toInt ∧ (1 : Int32).toInt ≤ 1 from by omega) (Nat.le_of_ble_eq_true rfl) (Nat.le_of_ble_eq_true rfl) dX10_isSet_19
theorem dX10_areSides_0 : decode cX10_areSides 0 = .ok (.aload_n 0, 1) := by decide +kernel
theorem dX10_areSides_1 : decode cX10_areSides 1 = .ok (.iload_n 1, 1) := by decide +kernel
theorem dX10_areSides_2 : decode cX10_areSides 2 = .ok (.invokevirtual 311, 3) := by decide +kernel
set_option maxRecDepth 100000 in
theorem wm_X10_311 : Cond.methodLink RX10 311 yX10_isSet ∈ gw := gm (List.mem_of_getElem? (i := 1587) (by decide +kernel)) rfl
set_option maxRecDepth 100000 in
theorem mi_X10_isSet : MI yX10_isSet cX10_isSet 2 (some .boolean) 1 := ⟨gm (List.mem_of_getElem? (i := 1590) rfl) rfl, gm (List.mem_of_getElem? (i := 124) (by decide +kernel)) rfl, by decide, by decide, by decide +kernel⟩
set_option maxRecDepth 100000 in
theorem in_X10_isSet : Cond.instanceMethod yX10_isSet ∈ gw := gm (List.mem_of_getElem? (i := 1589) (by decide +kernel)) rfl
set_option maxRecDepth 100000 in
theorem se_X10_isSet : Cond.selects yX10_isSet.cls yX10_isSet yX10_isSet ∈ gw := gm (List.mem_of_getElem? (i := 74) (by decide +kernel)) rfl
theorem dX10_areSides_5 : decode cX10_areSides 5 = .ok (.ifCond .eq 21, 3) := by decide +kernel
theorem dX10_areSides_26 : decode cX10_areSides 26 = .ok (.iconst 0, 1) := by decide +kernel
theorem dX10_areSides_27 : decode cX10_areSides 27 = .ok (.ireturn, 1) := by decide +kernel
theorem dX10_areSides_8 : decode cX10_areSides 8 = .ok (.aload_n 0, 1) := by decide +kernel
theorem dX10_areSides_9 : decode cX10_areSides 9 = .ok (.iload_n 2, 1) := by decide +kernel
theorem dX10_areSides_10 : decode cX10_areSides 10 = .ok (.invokevirtual 311, 3) := by decide +kernel
theorem dX10_areSides_13 : decode cX10_areSides 13 = .ok (.ifCond .eq 13, 3) := by decide +kernel
theorem dX10_areSides_16 : decode cX10_areSides 16 = .ok (.iload_n 1, 1) := by decide +kernel
theorem dX10_areSides_17 : decode cX10_areSides 17 = .ok (.iload_n 2, 1) := by decide +kernel
theorem dX10_areSides_18 : decode cX10_areSides 18 = .ok (.iand, 1) := by decide +kernel
theorem dX10_areSides_19 : decode cX10_areSides 19 = .ok (.ifCond .ne 7, 3) := by decide +kernel
theorem dX10_areSides_22 : decode cX10_areSides 22 = .ok (.iconst 1, 1) := by decide +kernel
theorem dX10_areSides_23 : decode cX10_areSides 23 = .ok (.goto 4, 3) := by decide +kernel
set_option maxHeartbeats 4000000 in
set_option maxRecDepth 100000 in
theorem c6_X10_areSides (l : Launch) (G : va_G) (cI cJ cB cZ : ClassId) (a0 a1 a2 a3 a4 a5 a6 a7 a8 a9 a10 a11 a12 a13 a14 a15 a16 a17 a18 a19 a20 a21 a22 a23 a24 a25 a26 a27 a28 a29 a30 a31 a32 a33 a34 a35 a36 a37 a38 a39 a40 a41 a42 : Nat) (b1 : Int32) (b2 : Int32) (v_m_2 : Int32) (v_m_3 : Int32) (v_m_4 : Int32) (v_m_5 : Int32) (v_m_6 : Int32) (v_m_7 : Int32) (v_m_8 : Int32) (v_m_9 : Int32) (w_m_10 : Int64) (v_m_41 : Int32) (v_m_44 : Int32) (v_m_45 : Int32) (v_m_46 : Int32) (v_m_47 : Int32) (v_m_49 : Int32) (v_m_53 : Int32) (v_m_54 : Int32) (v_m_55 : Int32) (v_m_56 : Int32) (v_m_57 : Int32) (v_m_58 : Int32) (v_m_59 : Int32) (v_m_60 : Int32) (v_m_62 : Int32) (v_m_67 : Int32) (v_m_68 : Int32) (v_m_stones_0 : Int32) (v_m_stones_1 : Int32) (hv_0 : 0 ≤ v_m_2.toInt) (hv_1 : v_m_2.toInt ≤ 1300) (hv_2 : 0 ≤ v_m_3.toInt) (hv_3 : v_m_3.toInt ≤ 1300) (hv_4 : 0 ≤ v_m_4.toInt) (hv_5 : v_m_4.toInt ≤ 5) (hv_6 : 0 ≤ v_m_6.toInt) (hv_7 : v_m_6.toInt ≤ 1300) (hv_8 : 0 ≤ v_m_7.toInt) (hv_9 : v_m_7.toInt ≤ 1301) (hv_10 : 0 ≤ v_m_8.toInt) (hv_11 : v_m_8.toInt ≤ 5) (hv_12 : 0 ≤ v_m_9.toInt) (hv_13 : v_m_9.toInt ≤ 9999) (hv_14 : 0 ≤ v_m_41.toInt) (hv_15 : v_m_41.toInt ≤ 1) (hv_16 : 0 ≤ v_m_44.toInt) (hv_17 : v_m_44.toInt ≤ 30) (hv_18 : 0 ≤ v_m_47.toInt) (hv_19 : v_m_47.toInt ≤ 1) (hv_20 : 0 ≤ v_m_49.toInt) (hv_21 : v_m_49.toInt ≤ 46) (hv_22 : 0 ≤ v_m_53.toInt) (hv_23 : v_m_53.toInt ≤ 300000) (hv_24 : 0 ≤ v_m_55.toInt) (hv_25 : v_m_55.toInt ≤ 300109) (hv_26 : v_m_56.toInt ≤ 300000) (hv_27 : 0 ≤ v_m_57.toInt) (hv_28 : v_m_57.toInt ≤ 1) (hv_29 : 0 ≤ v_m_60.toInt) (hv_30 : v_m_60.toInt ≤ 1) (hv_31 : 0 ≤ v_m_stones_0.toInt) (hv_32 : v_m_stones_0.toInt ≤ 6) (hv_33 : 0 ≤ v_m_stones_1.toInt) (hv_34 : v_m_stones_1.toInt ≤ 6) : Con l G (TY cI cJ cB cZ) yX10_areSides cX10_areSides 3 (some .boolean) ({ frames := 2, cells := 0, slots := 0, locals := 41 } : Room) [.ref a0, .int b1, .int b2] [(a0, .inr (10, [.ref a1, .ref a2, .int v_m_2, .int v_m_3, .int v_m_4, .int v_m_5, .int v_m_6, .int v_m_7, .int v_m_8, .int v_m_9, .long w_m_10, .ref a3, .ref a4, .ref a5, .ref a6, .ref a7, .ref a8, .ref a9, .ref a10, .ref a11, .ref a12, .ref a13, .ref a14, .ref a15, .ref a16, .ref a17, .ref a18, .ref a19, .ref a20, .ref a21, .ref a22, .ref a23, .ref a24, .ref a25, .ref a26, .ref a27, .ref a28, .ref a29, .ref a30, .ref a31, .int 0, .int v_m_41, .ref a32, .ref a33, .int v_m_44, .int v_m_45, .int v_m_46, .int v_m_47, .ref a34, .int v_m_49, .ref a35, .ref a36, .ref a37, .int v_m_53, .int v_m_54, .int v_m_55, .int v_m_56, .int v_m_57, .int v_m_58, .int v_m_59, .int v_m_60, .ref a38, .int v_m_62, .ref a39, .ref a40, .ref a41, .ref a42, .int v_m_67, .int v_m_68])), (a12, .inl (cI, 2, .inl (ex2 v_m_stones_0 v_m_stones_1)))] (QI G (TY cI cJ cB cZ) (fun (r : Int32) (u : Unit) => (0 ≤ r.toInt ∧ r.toInt ≤ 1)) (fun u : Unit => [(a0, .inr (10, [.ref a1, .ref a2, .int v_m_2, .int v_m_3, .int v_m_4, .int v_m_5, .int v_m_6, .int v_m_7, .int v_m_8, .int v_m_9, .long w_m_10, .ref a3, .ref a4, .ref a5, .ref a6, .ref a7, .ref a8, .ref a9, .ref a10, .ref a11, .ref a12, .ref a13, .ref a14, .ref a15, .ref a16, .ref a17, .ref a18, .ref a19, .ref a20, .ref a21, .ref a22, .ref a23, .ref a24, .ref a25, .ref a26, .ref a27, .ref a28, .ref a29, .ref a30, .ref a31, .int 0, .int v_m_41, .ref a32, .ref a33, .int v_m_44, .int v_m_45, .int v_m_46, .int v_m_47, .ref a34, .int v_m_49, .ref a35, .ref a36, .ref a37, .int v_m_53, .int v_m_54, .int v_m_55, .int v_m_56, .int v_m_57, .int v_m_58, .int v_m_59, .int v_m_60, .ref a38, .int v_m_62, .ref a39, .ref a40, .ref a41, .ref a42, .int v_m_67, .int v_m_68])), (a12, .inl (cI, 2, .inl (ex2 v_m_stones_0 v_m_stones_1)))])) := by
  refine k_met (by decide) (Nat.le_of_ble_eq_true rfl) ?_
  intro p e s m below meth c A ls hC hr hlk hnm hN hZ hK hA hP hD hS hl
  have hl : lv_has ls 3 [(0, .ref a0), (1, .int b1), (2, .int b2)] := hl
  generalize hQm : MQ below _ _ s _ _ A = Qm
  generalize (List.toArray _ : Array Value) = args at hC hQm ⊢
  obtain ⟨hx, hb, hml, hown, hts⟩ := id hC
  obtain ⟨H, hH⟩ : ∃ q, q = s.heap := ⟨_, rfl⟩
  obtain ⟨locs, hlo⟩ : ∃ q : List Loc, q = [] := ⟨_, rfl⟩
  have hP : va_P G cl [(a0, .inr (10, [.ref a1, .ref a2, .int v_m_2, .int v_m_3, .int v_m_4, .int v_m_5, .int v_m_6, .int v_m_7, .int v_m_8, .int v_m_9, .long w_m_10, .ref a3, .ref a4, .ref a5, .ref a6, .ref a7, .ref a8, .ref a9, .ref a10, .ref a11, .ref a12, .ref a13, .ref a14, .ref a15, .ref a16, .ref a17, .ref a18, .ref a19, .ref a20, .ref a21, .ref a22, .ref a23, .ref a24, .ref a25, .ref a26, .ref a27, .ref a28, .ref a29, .ref a30, .ref a31, .int 0, .int v_m_41, .ref a32, .ref a33, .int v_m_44, .int v_m_45, .int v_m_46, .int v_m_47, .ref a34, .int v_m_49, .ref a35, .ref a36, .ref a37, .int v_m_53, .int v_m_54, .int v_m_55, .int v_m_56, .int v_m_57, .int v_m_58, .int v_m_59, .int v_m_60, .ref a38, .int v_m_62, .ref a39, .ref a40, .ref a41, .ref a42, .int v_m_67, .int v_m_68])), (a12, .inl (cI, 2, .inl (ex2 v_m_stones_0 v_m_stones_1)))] H := by rw [hH]; exact hP
  have hS : va_S A s.heap H locs := by rw [hH, hlo]; exact hS
  rw [← hlo]
  rw [← hH]
  refine lv_aload_n hx hb dX10_areSides_0 rfl (lv_at hl 0 rfl) ?_
  refine lv_iload_n hx hb dX10_areSides_1 rfl (lv_at hl 1 rfl) ?_
  refine k_ci (wr := []) (k_rV hC hN hZ hS hA hK hP hD (c5_X10_isSet l G cI cJ cB cZ a0 a1 a2 a3 a4 a5 a6 a7 a8 a9 a10 a11 a12 a13 a14 a15 a16 a17 a18 a19 a20 a21 a22 a23 a24 a25 a26 a27 a28 a29 a30 a31 a32 a33 a34 a35 a36 a37 a38 a39 a40 a41 a42 b1 v_m_2 v_m_3 v_m_4 v_m_5 v_m_6 v_m_7 v_m_8 v_m_9 w_m_10 v_m_41 v_m_44 v_m_45 v_m_46 v_m_47 v_m_49 v_m_53 v_m_54 v_m_55 v_m_56 v_m_57 v_m_58 v_m_59 v_m_60 v_m_62 v_m_67 v_m_68 v_m_stones_0 v_m_stones_1 hv_0 hv_1 hv_2 hv_3 hv_4 hv_5 hv_6 hv_7 hv_8 hv_9 hv_10 hv_11 hv_12 hv_13 hv_14 hv_15 hv_16 hv_17 hv_18 hv_19 hv_20 hv_21 hv_22 hv_23 hv_24 hv_25 hv_26 hv_27 hv_28 hv_29 hv_30 hv_31 hv_32 hv_33 hv_34) [0, 1] rfl (by decide +kernel) mi_X10_isSet in_X10_isSet se_X10_isSet wm_X10_311 10 0 rfl rfl rfl hl.1 rfl rfl (Nat.le_of_ble_eq_true rfl) ⟨(Nat.le_of_ble_eq_true rfl), (Nat.le_of_ble_eq_true rfl)⟩ dX10_areSides_2 ⟨(Nat.le_of_ble_eq_true rfl), (Nat.le_of_ble_eq_true rfl)⟩) hP hD hS hA [0, 1] [] rfl rfl (by decide +kernel) (by decide +kernel) (fun r1 u1 H locs hp hP hD hS => ?_)
  have hp : (0 ≤ r1.toInt ∧ r1.toInt ≤ 1) := hp
  have hP : va_P G cl [(a0, .inr (10, [.ref a1, .ref a2, .int v_m_2, .int v_m_3, .int v_m_4, .int v_m_5, .int v_m_6, .int v_m_7, .int v_m_8, .int v_m_9, .long w_m_10, .ref a3, .ref a4, .ref a5, .ref a6, .ref a7, .ref a8, .ref a9, .ref a10, .ref a11, .ref a12, .ref a13, .ref a14, .ref a15, .ref a16, .ref a17, .ref a18, .ref a19, .ref a20, .ref a21, .ref a22, .ref a23, .ref a24, .ref a25, .ref a26, .ref a27, .ref a28, .ref a29, .ref a30, .ref a31, .int 0, .int v_m_41, .ref a32, .ref a33, .int v_m_44, .int v_m_45, .int v_m_46, .int v_m_47, .ref a34, .int v_m_49, .ref a35, .ref a36, .ref a37, .int v_m_53, .int v_m_54, .int v_m_55, .int v_m_56, .int v_m_57, .int v_m_58, .int v_m_59, .int v_m_60, .ref a38, .int v_m_62, .ref a39, .ref a40, .ref a41, .ref a42, .int v_m_67, .int v_m_68])), (a12, .inl (cI, 2, .inl (ex2 v_m_stones_0 v_m_stones_1)))] H := hP
  have hD : va_D A [(a0, .inr (10, [.ref a1, .ref a2, .int v_m_2, .int v_m_3, .int v_m_4, .int v_m_5, .int v_m_6, .int v_m_7, .int v_m_8, .int v_m_9, .long w_m_10, .ref a3, .ref a4, .ref a5, .ref a6, .ref a7, .ref a8, .ref a9, .ref a10, .ref a11, .ref a12, .ref a13, .ref a14, .ref a15, .ref a16, .ref a17, .ref a18, .ref a19, .ref a20, .ref a21, .ref a22, .ref a23, .ref a24, .ref a25, .ref a26, .ref a27, .ref a28, .ref a29, .ref a30, .ref a31, .int 0, .int v_m_41, .ref a32, .ref a33, .int v_m_44, .int v_m_45, .int v_m_46, .int v_m_47, .ref a34, .int v_m_49, .ref a35, .ref a36, .ref a37, .int v_m_53, .int v_m_54, .int v_m_55, .int v_m_56, .int v_m_57, .int v_m_58, .int v_m_59, .int v_m_60, .ref a38, .int v_m_62, .ref a39, .ref a40, .ref a41, .ref a42, .int v_m_67, .int v_m_68])), (a12, .inl (cI, 2, .inl (ex2 v_m_stones_0 v_m_stones_1)))] := hD
  have hq1 := hp
  refine lv_if_eq (tgt := 26) hx hb dX10_areSides_5 (by decide) (fun c2 => ?_) (fun c2 => ?_)
  · have dc2 : r1.toInt = 0 := (fa_eq _ _).mp c2
    refine lv_iconst (v := 0) hx hb dX10_areSides_26 (by decide) ?_
    have l_l3 : (0 : Int32).toInt = 0 := rfl
    rw [← hQm]
    exact k_zret hC hr hlk hK hP hD hS () [0, 1] rfl (by decide +kernel) rfl (show 0 ≤ (0 : Int32).toInt ∧ (0 : Int32).toInt ≤ 1 from by omega) (Nat.le_of_ble_eq_true rfl) (Nat.le_of_ble_eq_true rfl) dX10_areSides_27
  · have dc2 : r1.toInt ≠ 0 := fa_ne c2
    refine lv_aload_n hx hb dX10_areSides_8 rfl (lv_at hl 0 rfl) ?_
    refine lv_iload_n hx hb dX10_areSides_9 rfl (lv_at hl 2 rfl) ?_
    refine k_ci (wr := []) (k_rV hC hN hZ hS hA hK hP hD (c5_X10_isSet l G cI cJ cB cZ a0 a1 a2 a3 a4 a5 a6 a7 a8 a9 a10 a11 a12 a13 a14 a15 a16 a17 a18 a19 a20 a21 a22 a23 a24 a25 a26 a27 a28 a29 a30 a31 a32 a33 a34 a35 a36 a37 a38 a39 a40 a41 a42 b2 v_m_2 v_m_3 v_m_4 v_m_5 v_m_6 v_m_7 v_m_8 v_m_9 w_m_10 v_m_41 v_m_44 v_m_45 v_m_46 v_m_47 v_m_49 v_m_53 v_m_54 v_m_55 v_m_56 v_m_57 v_m_58 v_m_59 v_m_60 v_m_62 v_m_67 v_m_68 v_m_stones_0 v_m_stones_1 hv_0 hv_1 hv_2 hv_3 hv_4 hv_5 hv_6 hv_7 hv_8 hv_9 hv_10 hv_11 hv_12 hv_13 hv_14 hv_15 hv_16 hv_17 hv_18 hv_19 hv_20 hv_21 hv_22 hv_23 hv_24 hv_25 hv_26 hv_27 hv_28 hv_29 hv_30 hv_31 hv_32 hv_33 hv_34) [0, 1] rfl (by decide +kernel) mi_X10_isSet in_X10_isSet se_X10_isSet wm_X10_311 10 0 rfl rfl rfl hl.1 rfl rfl (Nat.le_of_ble_eq_true rfl) ⟨(Nat.le_of_ble_eq_true rfl), (Nat.le_of_ble_eq_true rfl)⟩ dX10_areSides_10 ⟨(Nat.le_of_ble_eq_true rfl), (Nat.le_of_ble_eq_true rfl)⟩) hP hD hS hA [0, 1] [] rfl rfl (by decide +kernel) (by decide +kernel) (fun r4 u4 H locs hp hP hD hS => ?_)
    have hp : (0 ≤ r4.toInt ∧ r4.toInt ≤ 1) := hp
    have hP : va_P G cl [(a0, .inr (10, [.ref a1, .ref a2, .int v_m_2, .int v_m_3, .int v_m_4, .int v_m_5, .int v_m_6, .int v_m_7, .int v_m_8, .int v_m_9, .long w_m_10, .ref a3, .ref a4, .ref a5, .ref a6, .ref a7, .ref a8, .ref a9, .ref a10, .ref a11, .ref a12, .ref a13, .ref a14, .ref a15, .ref a16, .ref a17, .ref a18, .ref a19, .ref a20, .ref a21, .ref a22, .ref a23, .ref a24, .ref a25, .ref a26, .ref a27, .ref a28, .ref a29, .ref a30, .ref a31, .int 0, .int v_m_41, .ref a32, .ref a33, .int v_m_44, .int v_m_45, .int v_m_46, .int v_m_47, .ref a34, .int v_m_49, .ref a35, .ref a36, .ref a37, .int v_m_53, .int v_m_54, .int v_m_55, .int v_m_56, .int v_m_57, .int v_m_58, .int v_m_59, .int v_m_60, .ref a38, .int v_m_62, .ref a39, .ref a40, .ref a41, .ref a42, .int v_m_67, .int v_m_68])), (a12, .inl (cI, 2, .inl (ex2 v_m_stones_0 v_m_stones_1)))] H := hP
    have hD : va_D A [(a0, .inr (10, [.ref a1, .ref a2, .int v_m_2, .int v_m_3, .int v_m_4, .int v_m_5, .int v_m_6, .int v_m_7, .int v_m_8, .int v_m_9, .long w_m_10, .ref a3, .ref a4, .ref a5, .ref a6, .ref a7, .ref a8, .ref a9, .ref a10, .ref a11, .ref a12, .ref a13, .ref a14, .ref a15, .ref a16, .ref a17, .ref a18, .ref a19, .ref a20, .ref a21, .ref a22, .ref a23, .ref a24, .ref a25, .ref a26, .ref a27, .ref a28, .ref a29, .ref a30, .ref a31, .int 0, .int v_m_41, .ref a32, .ref a33, .int v_m_44, .int v_m_45, .int v_m_46, .int v_m_47, .ref a34, .int v_m_49, .ref a35, .ref a36, .ref a37, .int v_m_53, .int v_m_54, .int v_m_55, .int v_m_56, .int v_m_57, .int v_m_58, .int v_m_59, .int v_m_60, .ref a38, .int v_m_62, .ref a39, .ref a40, .ref a41, .ref a42, .int v_m_67, .int v_m_68])), (a12, .inl (cI, 2, .inl (ex2 v_m_stones_0 v_m_stones_1)))] := hD
    have hq4 := hp
    refine lv_if_eq (tgt := 26) hx hb dX10_areSides_13 (by decide) (fun c5 => ?_) (fun c5 => ?_)
    · have dc5 : r4.toInt = 0 := (fa_eq _ _).mp c5
      refine lv_iconst (v := 0) hx hb dX10_areSides_26 (by decide) ?_
      have l_l6 : (0 : Int32).toInt = 0 := rfl
      rw [← hQm]
      exact k_zret hC hr hlk hK hP hD hS () [0, 1] rfl (by decide +kernel) rfl (show 0 ≤ (0 : Int32).toInt ∧ (0 : Int32).toInt ≤ 1 from by omega) (Nat.le_of_ble_eq_true rfl) (Nat.le_of_ble_eq_true rfl) dX10_areSides_27
    · have dc5 : r4.toInt ≠ 0 := fa_ne c5
      refine lv_iload_n hx hb dX10_areSides_16 rfl (lv_at hl 1 rfl) ?_
      refine lv_iload_n hx hb dX10_areSides_17 rfl (lv_at hl 2 rfl) ?_
      refine lv_iand hx hb dX10_areSides_18 ?_
      refine lv_topi (fun z7 _ => ?_)
      refine lv_if_ne (tgt := 26) hx hb dX10_areSides_19 (by decide) (fun c8 => ?_) (fun c8 => ?_)
      · have dc8 : z7.toInt ≠ 0 := fa_ne c8; have lbc8_0 := i_lo z7; have ubc8_0 := i_hi z7
        refine lv_iconst (v := 0) hx hb dX10_areSides_26 (by decide) ?_
        have l_l9 : (0 : Int32).toInt = 0 := rfl
        rw [← hQm]
        exact k_zret hC hr hlk hK hP hD hS () [0, 1] rfl (by decide +kernel) rfl (show 0 ≤ (0 : Int32).toInt ∧ (0 : Int32).toInt ≤ 1 from by omega) (Nat.le_of_ble_eq_true rfl) (Nat.le_of_ble_eq_true rfl) dX10_areSides_27
      · have dc8 : z7.toInt = 0 := (fa_eq _ _).mp c8; have lbc8_0 := i_lo z7; have ubc8_0 := i_hi z7
        refine lv_iconst (v := 1) hx hb dX10_areSides_22 (by decide) ?_
        refine lv_goto (tgt := 27) hx hb dX10_areSides_23 (by decide) ?_
        have l_l10 : (1 : Int32).toInt = 1 := rfl
        rw [← hQm]
        exact k_zret hC hr hlk hK hP hD hS () [0, 1] rfl (by decide +kernel) rfl (show 0 ≤ (1 : Int32).toInt ∧ (1 : Int32).toInt ≤ 1 from by omega) (Nat.le_of_ble_eq_true rfl) (Nat.le_of_ble_eq_true rfl) dX10_areSides_27
theorem dX10_isIn_0 : decode cX10_isIn 0 = .ok (.iload_n 0, 1) := by decide +kernel
theorem dX10_isIn_1 : decode cX10_isIn 1 = .ok (.iload_n 1, 1) := by decide +kernel
theorem dX10_isIn_2 : decode cX10_isIn 2 = .ok (.if_icmp .lt 12, 3) := by decide +kernel
theorem dX10_isIn_14 : decode cX10_isIn 14 = .ok (.iconst 0, 1) := by decide +kernel
theorem dX10_isIn_15 : decode cX10_isIn 15 = .ok (.ireturn, 1) := by decide +kernel
theorem dX10_isIn_5 : decode cX10_isIn 5 = .ok (.iload_n 0, 1) := by decide +kernel
theorem dX10_isIn_6 : decode cX10_isIn 6 = .ok (.iload_n 2, 1) := by decide +kernel
theorem dX10_isIn_7 : decode cX10_isIn 7 = .ok (.if_icmp .gt 7, 3) := by decide +kernel
theorem dX10_isIn_10 : decode cX10_isIn 10 = .ok (.iconst 1, 1) := by decide +kernel
theorem dX10_isIn_11 : decode cX10_isIn 11 = .ok (.goto 4, 3) := by decide +kernel
set_option maxHeartbeats 4000000 in
set_option maxRecDepth 100000 in
theorem c7_X10_isIn (l : Launch) (G : va_G) (cI cJ cB cZ : ClassId) (b0 : Int32) (b1 : Int32) (b2 : Int32) (hv_0 : 0 ≤ b1.toInt) (hv_1 : b1.toInt ≤ 0) (hv_2 : 9 ≤ b2.toInt) (hv_3 : b2.toInt ≤ 9) : Con l G (TY cI cJ cB cZ) yX10_isIn cX10_isIn 3 (some .boolean) ({ frames := 0, cells := 0, slots := 0, locals := 0 } : Room) [.int b0, .int b1, .int b2] [] (QI G (TY cI cJ cB cZ) (fun (r : Int32) (u : Unit) => (r = 0 ∧ (True) ∧ (inI 0 b0 b1 b2)) ∨ (r = 1 ∧ (0 ≤ b0.toInt ∧ b0.toInt ≤ 9) ∧ (inI 1 b0 b1 b2))) (fun u : Unit => [])) := by
  refine k_met (by decide) (Nat.le_of_ble_eq_true rfl) ?_
  intro p e s m below meth c A ls hC hr hlk hnm hN hZ hK hA hP hD hS hl
  have hl : lv_has ls 3 [(0, .int b0), (1, .int b1), (2, .int b2)] := hl
  generalize hQm : MQ below _ _ s _ _ A = Qm
  generalize (List.toArray _ : Array Value) = args at hC hQm ⊢
  obtain ⟨hx, hb, hml, hown, hts⟩ := id hC
  obtain ⟨H, hH⟩ : ∃ q, q = s.heap := ⟨_, rfl⟩
  obtain ⟨locs, hlo⟩ : ∃ q : List Loc, q = [] := ⟨_, rfl⟩
  have hP : va_P G cl [] H := by rw [hH]; exact hP
  have hS : va_S A s.heap H locs := by rw [hH, hlo]; exact hS
  rw [← hlo]
  rw [← hH]
  refine lv_iload_n hx hb dX10_isIn_0 rfl (lv_at hl 0 rfl) ?_
  refine lv_iload_n hx hb dX10_isIn_1 rfl (lv_at hl 1 rfl) ?_
  refine lv_icmp_lt (tgt := 14) hx hb dX10_isIn_2 (by decide) (fun c1 => ?_) (fun c1 => ?_)
  · have dc1 : b0.toInt < b1.toInt := (fa_lt _ _).mp c1; have lbc1_0 := i_lo b0; have ubc1_0 := i_hi b0
    refine lv_iconst (v := 0) hx hb dX10_isIn_14 (by decide) ?_
    have l_l2 : (0 : Int32).toInt = 0 := rfl
    rw [← hQm]
    exact k_zret hC hr hlk hK hP hD hS () [] rfl (by decide +kernel) rfl (Or.inl ⟨rfl, trivial, (show inI (0 : Int32) b0 b1 b2 from by unfold inI; omega)⟩) (Nat.le_of_ble_eq_true rfl) (Nat.le_of_ble_eq_true rfl) dX10_isIn_15
  · have dc1 : b1.toInt ≤ b0.toInt := fa_nlt c1; have lbc1_0 := i_lo b0; have ubc1_0 := i_hi b0
    refine lv_iload_n hx hb dX10_isIn_5 rfl (lv_at hl 0 rfl) ?_
    refine lv_iload_n hx hb dX10_isIn_6 rfl (lv_at hl 2 rfl) ?_
    refine lv_icmp_gt (tgt := 14) hx hb dX10_isIn_7 (by decide) (fun c3 => ?_) (fun c3 => ?_)
    · have dc3 : b2.toInt < b0.toInt := (fa_lt _ _).mp c3; have ubc3_1 := i_hi b0
      refine lv_iconst (v := 0) hx hb dX10_isIn_14 (by decide) ?_
      have l_l4 : (0 : Int32).toInt = 0 := rfl
      rw [← hQm]
      exact k_zret hC hr hlk hK hP hD hS () [] rfl (by decide +kernel) rfl (Or.inl ⟨rfl, trivial, (show inI (0 : Int32) b0 b1 b2 from by unfold inI; omega)⟩) (Nat.le_of_ble_eq_true rfl) (Nat.le_of_ble_eq_true rfl) dX10_isIn_15
    · have dc3 : b0.toInt ≤ b2.toInt := fa_nlt c3; have ubc3_1 := i_hi b0
      refine lv_iconst (v := 1) hx hb dX10_isIn_10 (by decide) ?_
      refine lv_goto (tgt := 15) hx hb dX10_isIn_11 (by decide) ?_
      have l_l5 : (1 : Int32).toInt = 1 := rfl
      rw [← hQm]
      exact k_zret hC hr hlk hK hP hD hS () [] rfl (by decide +kernel) rfl (Or.inr ⟨rfl, (show 0 ≤ b0.toInt ∧ b0.toInt ≤ 9 from by omega), (show inI (1 : Int32) b0 b1 b2 from by unfold inI; omega)⟩) (Nat.le_of_ble_eq_true rfl) (Nat.le_of_ble_eq_true rfl) dX10_isIn_15
set_option maxHeartbeats 4000000 in
set_option maxRecDepth 100000 in
theorem c8_X10_isIn (l : Launch) (G : va_G) (cI cJ cB cZ : ClassId) (b0 : Int32) (b1 : Int32) (b2 : Int32) (hv_0 : 0 ≤ b1.toInt) (hv_1 : b1.toInt ≤ 0) (hv_2 : 2 ≤ b2.toInt) (hv_3 : b2.toInt ≤ 2) : Con l G (TY cI cJ cB cZ) yX10_isIn cX10_isIn 3 (some .boolean) ({ frames := 0, cells := 0, slots := 0, locals := 0 } : Room) [.int b0, .int b1, .int b2] [] (QI G (TY cI cJ cB cZ) (fun (r : Int32) (u : Unit) => (r = 0 ∧ (True) ∧ (inI 0 b0 b1 b2)) ∨ (r = 1 ∧ (0 ≤ b0.toInt ∧ b0.toInt ≤ 2) ∧ (inI 1 b0 b1 b2))) (fun u : Unit => [])) := by
  refine k_met (by decide) (Nat.le_of_ble_eq_true rfl) ?_
  intro p e s m below meth c A ls hC hr hlk hnm hN hZ hK hA hP hD hS hl
  have hl : lv_has ls 3 [(0, .int b0), (1, .int b1), (2, .int b2)] := hl
  generalize hQm : MQ below _ _ s _ _ A = Qm
  generalize (List.toArray _ : Array Value) = args at hC hQm ⊢
  obtain ⟨hx, hb, hml, hown, hts⟩ := id hC
  obtain ⟨H, hH⟩ : ∃ q, q = s.heap := ⟨_, rfl⟩
  obtain ⟨locs, hlo⟩ : ∃ q : List Loc, q = [] := ⟨_, rfl⟩
  have hP : va_P G cl [] H := by rw [hH]; exact hP
  have hS : va_S A s.heap H locs := by rw [hH, hlo]; exact hS
  rw [← hlo]
  rw [← hH]
  refine lv_iload_n hx hb dX10_isIn_0 rfl (lv_at hl 0 rfl) ?_
  refine lv_iload_n hx hb dX10_isIn_1 rfl (lv_at hl 1 rfl) ?_
  refine lv_icmp_lt (tgt := 14) hx hb dX10_isIn_2 (by decide) (fun c1 => ?_) (fun c1 => ?_)
  · have dc1 : b0.toInt < b1.toInt := (fa_lt _ _).mp c1; have lbc1_0 := i_lo b0; have ubc1_0 := i_hi b0
    refine lv_iconst (v := 0) hx hb dX10_isIn_14 (by decide) ?_
    have l_l2 : (0 : Int32).toInt = 0 := rfl
    rw [← hQm]
    exact k_zret hC hr hlk hK hP hD hS () [] rfl (by decide +kernel) rfl (Or.inl ⟨rfl, trivial, (show inI (0 : Int32) b0 b1 b2 from by unfold inI; omega)⟩) (Nat.le_of_ble_eq_true rfl) (Nat.le_of_ble_eq_true rfl) dX10_isIn_15
  · have dc1 : b1.toInt ≤ b0.toInt := fa_nlt c1; have lbc1_0 := i_lo b0; have ubc1_0 := i_hi b0
    refine lv_iload_n hx hb dX10_isIn_5 rfl (lv_at hl 0 rfl) ?_
    refine lv_iload_n hx hb dX10_isIn_6 rfl (lv_at hl 2 rfl) ?_
    refine lv_icmp_gt (tgt := 14) hx hb dX10_isIn_7 (by decide) (fun c3 => ?_) (fun c3 => ?_)
    · have dc3 : b2.toInt < b0.toInt := (fa_lt _ _).mp c3; have ubc3_1 := i_hi b0
      refine lv_iconst (v := 0) hx hb dX10_isIn_14 (by decide) ?_
      have l_l4 : (0 : Int32).toInt = 0 := rfl
      rw [← hQm]
      exact k_zret hC hr hlk hK hP hD hS () [] rfl (by decide +kernel) rfl (Or.inl ⟨rfl, trivial, (show inI (0 : Int32) b0 b1 b2 from by unfold inI; omega)⟩) (Nat.le_of_ble_eq_true rfl) (Nat.le_of_ble_eq_true rfl) dX10_isIn_15
    · have dc3 : b0.toInt ≤ b2.toInt := fa_nlt c3; have ubc3_1 := i_hi b0
      refine lv_iconst (v := 1) hx hb dX10_isIn_10 (by decide) ?_
      refine lv_goto (tgt := 15) hx hb dX10_isIn_11 (by decide) ?_
      have l_l5 : (1 : Int32).toInt = 1 := rfl
      rw [← hQm]
      exact k_zret hC hr hlk hK hP hD hS () [] rfl (by decide +kernel) rfl (Or.inr ⟨rfl, (show 0 ≤ b0.toInt ∧ b0.toInt ≤ 2 from by omega), (show inI (1 : Int32) b0 b1 b2 from by unfold inI; omega)⟩) (Nat.le_of_ble_eq_true rfl) (Nat.le_of_ble_eq_true rfl) dX10_isIn_15
theorem dX10_weighed_0 : decode cX10_weighed 0 = .ok (.aload_n 0, 1) := by decide +kernel
theorem dX10_weighed_1 : decode cX10_weighed 1 = .ok (.iload_n 1, 1) := by decide +kernel
theorem dX10_weighed_2 : decode cX10_weighed 2 = .ok (.iload_n 2, 1) := by decide +kernel
theorem dX10_weighed_3 : decode cX10_weighed 3 = .ok (.invokevirtual 314, 3) := by decide +kernel
set_option maxRecDepth 100000 in
theorem wm_X10_314 : Cond.methodLink RX10 314 yX10_areSides ∈ gw := gm (List.mem_of_getElem? (i := 1583) (by decide +kernel)) rfl
set_option maxRecDepth 100000 in
theorem mi_X10_areSides : MI yX10_areSides cX10_areSides 3 (some .boolean) 2 := ⟨gm (List.mem_of_getElem? (i := 1586) rfl) rfl, gm (List.mem_of_getElem? (i := 124) (by decide +kernel)) rfl, by decide, by decide, by decide +kernel⟩
set_option maxRecDepth 100000 in
theorem in_X10_areSides : Cond.instanceMethod yX10_areSides ∈ gw := gm (List.mem_of_getElem? (i := 1585) (by decide +kernel)) rfl
set_option maxRecDepth 100000 in
theorem se_X10_areSides : Cond.selects yX10_areSides.cls yX10_areSides yX10_areSides ∈ gw := gm (List.mem_of_getElem? (i := 73) (by decide +kernel)) rfl
theorem dX10_weighed_6 : decode cX10_weighed 6 = .ok (.ifCond .eq 43, 3) := by decide +kernel
theorem dX10_weighed_49 : decode cX10_weighed 49 = .ok (.iconst (-1), 1) := by decide +kernel
theorem dX10_weighed_50 : decode cX10_weighed 50 = .ok (.ireturn, 1) := by decide +kernel
theorem dX10_weighed_9 : decode cX10_weighed 9 = .ok (.iload_n 3, 1) := by decide +kernel
theorem dX10_weighed_10 : decode cX10_weighed 10 = .ok (.iconst 0, 1) := by decide +kernel
theorem dX10_weighed_11 : decode cX10_weighed 11 = .ok (.bipush 9, 2) := by decide +kernel
theorem dX10_weighed_13 : decode cX10_weighed 13 = .ok (.invokestatic 307, 3) := by decide +kernel
set_option maxRecDepth 100000 in
theorem wm_X10_307 : Cond.methodLink RX10 307 yX10_isIn ∈ gw := gm (List.mem_of_getElem? (i := 1595) (by decide +kernel)) rfl
set_option maxRecDepth 100000 in
theorem mi_X10_isIn : MI yX10_isIn cX10_isIn 3 (some .boolean) 3 := ⟨gm (List.mem_of_getElem? (i := 1597) rfl) rfl, gm (List.mem_of_getElem? (i := 124) (by decide +kernel)) rfl, by decide, by decide, by decide +kernel⟩
set_option maxRecDepth 100000 in
theorem st_X10_isIn : Cond.static yX10_isIn ∈ gw := gm (List.mem_of_getElem? (i := 1596) (by decide +kernel)) rfl
theorem dX10_weighed_16 : decode cX10_weighed 16 = .ok (.ifCond .eq 33, 3) := by decide +kernel
theorem dX10_weighed_19 : decode cX10_weighed 19 = .ok (.iload 4, 2) := by decide +kernel
theorem dX10_weighed_21 : decode cX10_weighed 21 = .ok (.iconst 0, 1) := by decide +kernel
theorem dX10_weighed_22 : decode cX10_weighed 22 = .ok (.bipush 9, 2) := by decide +kernel
theorem dX10_weighed_24 : decode cX10_weighed 24 = .ok (.invokestatic 307, 3) := by decide +kernel
theorem dX10_weighed_27 : decode cX10_weighed 27 = .ok (.ifCond .eq 22, 3) := by decide +kernel
theorem dX10_weighed_30 : decode cX10_weighed 30 = .ok (.iload 5, 2) := by decide +kernel
theorem dX10_weighed_32 : decode cX10_weighed 32 = .ok (.iconst 0, 1) := by decide +kernel
theorem dX10_weighed_33 : decode cX10_weighed 33 = .ok (.iconst 2, 1) := by decide +kernel
theorem dX10_weighed_34 : decode cX10_weighed 34 = .ok (.invokestatic 307, 3) := by decide +kernel
theorem dX10_weighed_37 : decode cX10_weighed 37 = .ok (.ifCond .eq 12, 3) := by decide +kernel
theorem dX10_weighed_40 : decode cX10_weighed 40 = .ok (.aload_n 0, 1) := by decide +kernel
theorem dX10_weighed_41 : decode cX10_weighed 41 = .ok (.getfield 249, 3) := by decide +kernel
set_option maxRecDepth 100000 in
theorem wf_X10_249 : Cond.fieldLink RX10 249 "StoneTrustModel" "others" "I" ∈ gw := gm (List.mem_of_getElem? (i := 1299) (by decide +kernel)) rfl
theorem dX10_weighed_44 : decode cX10_weighed 44 = .ok (.bipush 30, 2) := by decide +kernel
theorem dX10_weighed_46 : decode cX10_weighed 46 = .ok (.if_icmp .ne 5, 3) := by decide +kernel
theorem dX10_weighed_51 : decode cX10_weighed 51 = .ok (.bipush 32, 2) := by decide +kernel
theorem dX10_weighed_53 : decode cX10_weighed 53 = .ok (.aload_n 0, 1) := by decide +kernel
theorem dX10_weighed_54 : decode cX10_weighed 54 = .ok (.getfield 249, 3) := by decide +kernel
theorem dX10_weighed_57 : decode cX10_weighed 57 = .ok (.iadd, 1) := by decide +kernel
theorem dX10_weighed_58 : decode cX10_weighed 58 = .ok (.istore 6, 2) := by decide +kernel
theorem dX10_weighed_60 : decode cX10_weighed 60 = .ok (.aload_n 0, 1) := by decide +kernel
theorem dX10_weighed_61 : decode cX10_weighed 61 = .ok (.getfield 172, 3) := by decide +kernel
set_option maxRecDepth 100000 in
theorem wf_X10_172 : Cond.fieldLink RX10 172 "StoneTrustModel" "wLeft" "[I" ∈ gw := gm (List.mem_of_getElem? (i := 1286) (by decide +kernel)) rfl
theorem dX10_weighed_64 : decode cX10_weighed 64 = .ok (.iload 6, 2) := by decide +kernel
theorem dX10_weighed_66 : decode cX10_weighed 66 = .ok (.iload_n 1, 1) := by decide +kernel
theorem dX10_weighed_67 : decode cX10_weighed 67 = .ok (.iastore, 1) := by decide +kernel
theorem dX10_weighed_68 : decode cX10_weighed 68 = .ok (.aload_n 0, 1) := by decide +kernel
theorem dX10_weighed_69 : decode cX10_weighed 69 = .ok (.getfield 175, 3) := by decide +kernel
set_option maxRecDepth 100000 in
theorem wf_X10_175 : Cond.fieldLink RX10 175 "StoneTrustModel" "wRight" "[I" ∈ gw := gm (List.mem_of_getElem? (i := 1287) (by decide +kernel)) rfl
theorem dX10_weighed_72 : decode cX10_weighed 72 = .ok (.iload 6, 2) := by decide +kernel
theorem dX10_weighed_74 : decode cX10_weighed 74 = .ok (.iload_n 2, 1) := by decide +kernel
theorem dX10_weighed_75 : decode cX10_weighed 75 = .ok (.iastore, 1) := by decide +kernel
theorem dX10_weighed_76 : decode cX10_weighed 76 = .ok (.aload_n 0, 1) := by decide +kernel
theorem dX10_weighed_77 : decode cX10_weighed 77 = .ok (.getfield 178, 3) := by decide +kernel
set_option maxRecDepth 100000 in
theorem wf_X10_178 : Cond.fieldLink RX10 178 "StoneTrustModel" "wYear" "[I" ∈ gw := gm (List.mem_of_getElem? (i := 1288) (by decide +kernel)) rfl
theorem dX10_weighed_80 : decode cX10_weighed 80 = .ok (.iload 6, 2) := by decide +kernel
theorem dX10_weighed_82 : decode cX10_weighed 82 = .ok (.iload_n 3, 1) := by decide +kernel
theorem dX10_weighed_83 : decode cX10_weighed 83 = .ok (.iastore, 1) := by decide +kernel
theorem dX10_weighed_84 : decode cX10_weighed 84 = .ok (.aload_n 0, 1) := by decide +kernel
theorem dX10_weighed_85 : decode cX10_weighed 85 = .ok (.getfield 181, 3) := by decide +kernel
set_option maxRecDepth 100000 in
theorem wf_X10_181 : Cond.fieldLink RX10 181 "StoneTrustModel" "wTrader" "[I" ∈ gw := gm (List.mem_of_getElem? (i := 1289) (by decide +kernel)) rfl
theorem dX10_weighed_88 : decode cX10_weighed 88 = .ok (.iload 6, 2) := by decide +kernel
theorem dX10_weighed_90 : decode cX10_weighed 90 = .ok (.iload 4, 2) := by decide +kernel
theorem dX10_weighed_92 : decode cX10_weighed 92 = .ok (.iastore, 1) := by decide +kernel
theorem dX10_weighed_93 : decode cX10_weighed 93 = .ok (.aload_n 0, 1) := by decide +kernel
theorem dX10_weighed_94 : decode cX10_weighed 94 = .ok (.getfield 184, 3) := by decide +kernel
set_option maxRecDepth 100000 in
theorem wf_X10_184 : Cond.fieldLink RX10 184 "StoneTrustModel" "wHow" "[I" ∈ gw := gm (List.mem_of_getElem? (i := 1290) (by decide +kernel)) rfl
theorem dX10_weighed_97 : decode cX10_weighed 97 = .ok (.iload 6, 2) := by decide +kernel
theorem dX10_weighed_99 : decode cX10_weighed 99 = .ok (.iload 5, 2) := by decide +kernel
theorem dX10_weighed_101 : decode cX10_weighed 101 = .ok (.iastore, 1) := by decide +kernel
theorem dX10_weighed_102 : decode cX10_weighed 102 = .ok (.aload_n 0, 1) := by decide +kernel
theorem dX10_weighed_103 : decode cX10_weighed 103 = .ok (.getfield 199, 3) := by decide +kernel
set_option maxRecDepth 100000 in
theorem wf_X10_199 : Cond.fieldLink RX10 199 "StoneTrustModel" "told" "[I" ∈ gw := gm (List.mem_of_getElem? (i := 1297) (by decide +kernel)) rfl
theorem dX10_weighed_106 : decode cX10_weighed 106 = .ok (.aload_n 0, 1) := by decide +kernel
theorem dX10_weighed_107 : decode cX10_weighed 107 = .ok (.getfield 249, 3) := by decide +kernel
theorem dX10_weighed_110 : decode cX10_weighed 110 = .ok (.aload_n 0, 1) := by decide +kernel
theorem dX10_weighed_111 : decode cX10_weighed 111 = .ok (.getfield 318, 3) := by decide +kernel
set_option maxRecDepth 100000 in
theorem wf_X10_318 : Cond.fieldLink RX10 318 "StoneTrustModel" "time" "I" ∈ gw := gm (List.mem_of_getElem? (i := 1300) (by decide +kernel)) rfl
theorem dX10_weighed_114 : decode cX10_weighed 114 = .ok (.iastore, 1) := by decide +kernel
theorem dX10_weighed_115 : decode cX10_weighed 115 = .ok (.aload_n 0, 1) := by decide +kernel
theorem dX10_weighed_116 : decode cX10_weighed 116 = .ok (.getfield 202, 3) := by decide +kernel
set_option maxRecDepth 100000 in
theorem wf_X10_202 : Cond.fieldLink RX10 202 "StoneTrustModel" "untold" "[I" ∈ gw := gm (List.mem_of_getElem? (i := 1298) (by decide +kernel)) rfl
theorem dX10_weighed_119 : decode cX10_weighed 119 = .ok (.aload_n 0, 1) := by decide +kernel
theorem dX10_weighed_120 : decode cX10_weighed 120 = .ok (.getfield 249, 3) := by decide +kernel
theorem dX10_weighed_123 : decode cX10_weighed 123 = .ok (.iconst (-1), 1) := by decide +kernel
theorem dX10_weighed_124 : decode cX10_weighed 124 = .ok (.iastore, 1) := by decide +kernel
theorem dX10_weighed_125 : decode cX10_weighed 125 = .ok (.aload_n 0, 1) := by decide +kernel
theorem dX10_weighed_126 : decode cX10_weighed 126 = .ok (.dup, 1) := by decide +kernel
theorem dX10_weighed_127 : decode cX10_weighed 127 = .ok (.getfield 249, 3) := by decide +kernel
theorem dX10_weighed_130 : decode cX10_weighed 130 = .ok (.iconst 1, 1) := by decide +kernel
theorem dX10_weighed_131 : decode cX10_weighed 131 = .ok (.iadd, 1) := by decide +kernel
theorem dX10_weighed_132 : decode cX10_weighed 132 = .ok (.putfield 249, 3) := by decide +kernel
theorem dX10_weighed_135 : decode cX10_weighed 135 = .ok (.aload_n 0, 1) := by decide +kernel
theorem dX10_weighed_136 : decode cX10_weighed 136 = .ok (.iconst 0, 1) := by decide +kernel
theorem dX10_weighed_137 : decode cX10_weighed 137 = .ok (.putfield 255, 3) := by decide +kernel
set_option maxRecDepth 100000 in
theorem wf_X10_255 : Cond.fieldLink RX10 255 "StoneTrustModel" "isKnown" "Z" ∈ gw := gm (List.mem_of_getElem? (i := 1302) (by decide +kernel)) rfl
theorem dX10_weighed_140 : decode cX10_weighed 140 = .ok (.aload_n 0, 1) := by decide +kernel
theorem dX10_weighed_141 : decode cX10_weighed 141 = .ok (.getfield 249, 3) := by decide +kernel
theorem dX10_weighed_144 : decode cX10_weighed 144 = .ok (.iconst 1, 1) := by decide +kernel
theorem dX10_weighed_145 : decode cX10_weighed 145 = .ok (.isub, 1) := by decide +kernel
theorem dX10_weighed_146 : decode cX10_weighed 146 = .ok (.ireturn, 1) := by decide +kernel
set_option maxHeartbeats 4000000 in
set_option maxRecDepth 100000 in
theorem c9_X10_weighed (l : Launch) (G : va_G) (cI cJ cB cZ : ClassId) (a0 a1 a2 a3 a4 a5 a6 a7 a8 a9 a10 a11 a12 a13 a14 a15 a16 a17 a18 a19 a20 a21 a22 a23 a24 a25 a26 a27 a28 a29 a30 a31 a32 a33 a34 a35 a36 a37 a38 a39 a40 a41 a42 : Nat) (b1 : Int32) (b2 : Int32) (b3 : Int32) (b4 : Int32) (b5 : Int32) (v_m_2 : Int32) (v_m_3 : Int32) (v_m_4 : Int32) (v_m_5 : Int32) (v_m_6 : Int32) (v_m_7 : Int32) (v_m_8 : Int32) (v_m_9 : Int32) (w_m_10 : Int64) (v_m_41 : Int32) (v_m_44 : Int32) (v_m_45 : Int32) (v_m_46 : Int32) (v_m_47 : Int32) (v_m_49 : Int32) (v_m_53 : Int32) (v_m_54 : Int32) (v_m_55 : Int32) (v_m_56 : Int32) (v_m_57 : Int32) (v_m_58 : Int32) (v_m_59 : Int32) (v_m_60 : Int32) (v_m_62 : Int32) (v_m_67 : Int32) (v_m_68 : Int32) (v_m_stones_0 : Int32) (v_m_stones_1 : Int32) (g_m_wLeft : Nat → Int32) (g_m_wRight : Nat → Int32) (g_m_wYear : Nat → Int32) (g_m_wTrader : Nat → Int32) (g_m_wHow : Nat → Int32) (g_m_told : Nat → Int32) (g_m_untold : Nat → Int32) (hv_0 : 0 ≤ v_m_2.toInt) (hv_1 : v_m_2.toInt ≤ 1300) (hv_2 : 0 ≤ v_m_3.toInt) (hv_3 : v_m_3.toInt ≤ 1300) (hv_4 : 0 ≤ v_m_4.toInt) (hv_5 : v_m_4.toInt ≤ 5) (hv_6 : 0 ≤ v_m_6.toInt) (hv_7 : v_m_6.toInt ≤ 1300) (hv_8 : 0 ≤ v_m_7.toInt) (hv_9 : v_m_7.toInt ≤ 1301) (hv_10 : 0 ≤ v_m_8.toInt) (hv_11 : v_m_8.toInt ≤ 5) (hv_12 : 0 ≤ v_m_9.toInt) (hv_13 : v_m_9.toInt ≤ 9999) (hv_14 : 0 ≤ v_m_41.toInt) (hv_15 : v_m_41.toInt ≤ 1) (hv_16 : 0 ≤ v_m_44.toInt) (hv_17 : v_m_44.toInt ≤ 30) (hv_18 : 0 ≤ v_m_47.toInt) (hv_19 : v_m_47.toInt ≤ 1) (hv_20 : 0 ≤ v_m_49.toInt) (hv_21 : v_m_49.toInt ≤ 46) (hv_22 : 0 ≤ v_m_53.toInt) (hv_23 : v_m_53.toInt ≤ 300000) (hv_24 : 0 ≤ v_m_55.toInt) (hv_25 : v_m_55.toInt ≤ 300109) (hv_26 : v_m_56.toInt ≤ 300000) (hv_27 : 0 ≤ v_m_57.toInt) (hv_28 : v_m_57.toInt ≤ 1) (hv_29 : 0 ≤ v_m_60.toInt) (hv_30 : v_m_60.toInt ≤ 1) (hv_31 : 0 ≤ v_m_stones_0.toInt) (hv_32 : v_m_stones_0.toInt ≤ 6) (hv_33 : 0 ≤ v_m_stones_1.toInt) (hv_34 : v_m_stones_1.toInt ≤ 6) : Con l G (TY cI cJ cB cZ) yX10_weighed cX10_weighed 7 (some .int) ({ frames := 3, cells := 0, slots := 0, locals := 63 } : Room) [.ref a0, .int b1, .int b2, .int b3, .int b4, .int b5] [(a0, .inr (10, [.ref a1, .ref a2, .int v_m_2, .int v_m_3, .int v_m_4, .int v_m_5, .int v_m_6, .int v_m_7, .int v_m_8, .int v_m_9, .long w_m_10, .ref a3, .ref a4, .ref a5, .ref a6, .ref a7, .ref a8, .ref a9, .ref a10, .ref a11, .ref a12, .ref a13, .ref a14, .ref a15, .ref a16, .ref a17, .ref a18, .ref a19, .ref a20, .ref a21, .ref a22, .ref a23, .ref a24, .ref a25, .ref a26, .ref a27, .ref a28, .ref a29, .ref a30, .ref a31, .int 0, .int v_m_41, .ref a32, .ref a33, .int v_m_44, .int v_m_45, .int v_m_46, .int v_m_47, .ref a34, .int v_m_49, .ref a35, .ref a36, .ref a37, .int v_m_53, .int v_m_54, .int v_m_55, .int v_m_56, .int v_m_57, .int v_m_58, .int v_m_59, .int v_m_60, .ref a38, .int v_m_62, .ref a39, .ref a40, .ref a41, .ref a42, .int v_m_67, .int v_m_68])), (a12, .inl (cI, 2, .inl (ex2 v_m_stones_0 v_m_stones_1))), (a23, .inl (cI, 62, .inl g_m_wLeft)), (a24, .inl (cI, 62, .inl g_m_wRight)), (a25, .inl (cI, 62, .inl g_m_wYear)), (a26, .inl (cI, 62, .inl g_m_wTrader)), (a27, .inl (cI, 62, .inl g_m_wHow)), (a32, .inl (cI, 30, .inl g_m_told)), (a33, .inl (cI, 30, .inl g_m_untold))] (QI G (TY cI cJ cB cZ) (fun (r : Int32) (u : Int32 × Int32 × (Nat → Int32) × (Nat → Int32) × (Nat → Int32) × (Nat → Int32) × (Nat → Int32) × (Nat → Int32) × (Nat → Int32)) => ((-1) ≤ r.toInt ∧ r.toInt ≤ 29 ∧ 0 ≤ u.1.toInt ∧ u.1.toInt ≤ 30 ∧ 0 ≤ u.2.1.toInt ∧ u.2.1.toInt ≤ 1 ∧ (u.2.1.toInt ≤ v_m_47.toInt))) (fun u : Int32 × Int32 × (Nat → Int32) × (Nat → Int32) × (Nat → Int32) × (Nat → Int32) × (Nat → Int32) × (Nat → Int32) × (Nat → Int32) => [(a0, .inr (10, [.ref a1, .ref a2, .int v_m_2, .int v_m_3, .int v_m_4, .int v_m_5, .int v_m_6, .int v_m_7, .int v_m_8, .int v_m_9, .long w_m_10, .ref a3, .ref a4, .ref a5, .ref a6, .ref a7, .ref a8, .ref a9, .ref a10, .ref a11, .ref a12, .ref a13, .ref a14, .ref a15, .ref a16, .ref a17, .ref a18, .ref a19, .ref a20, .ref a21, .ref a22, .ref a23, .ref a24, .ref a25, .ref a26, .ref a27, .ref a28, .ref a29, .ref a30, .ref a31, .int 0, .int v_m_41, .ref a32, .ref a33, .int u.1, .int v_m_45, .int v_m_46, .int u.2.1, .ref a34, .int v_m_49, .ref a35, .ref a36, .ref a37, .int v_m_53, .int v_m_54, .int v_m_55, .int v_m_56, .int v_m_57, .int v_m_58, .int v_m_59, .int v_m_60, .ref a38, .int v_m_62, .ref a39, .ref a40, .ref a41, .ref a42, .int v_m_67, .int v_m_68])), (a12, .inl (cI, 2, .inl (ex2 v_m_stones_0 v_m_stones_1))), (a23, .inl (cI, 62, .inl u.2.2.1)), (a24, .inl (cI, 62, .inl u.2.2.2.1)), (a25, .inl (cI, 62, .inl u.2.2.2.2.1)), (a26, .inl (cI, 62, .inl u.2.2.2.2.2.1)), (a27, .inl (cI, 62, .inl u.2.2.2.2.2.2.1)), (a32, .inl (cI, 30, .inl u.2.2.2.2.2.2.2.1)), (a33, .inl (cI, 30, .inl u.2.2.2.2.2.2.2.2))])) := by
  refine k_met (by decide) (Nat.le_of_ble_eq_true rfl) ?_
  intro p e s m below meth c A ls hC hr hlk hnm hN hZ hK hA hP hD hS hl
  have hl : lv_has ls 7 [(0, .ref a0), (1, .int b1), (2, .int b2), (3, .int b3), (4, .int b4), (5, .int b5)] := hl
  generalize hQm : MQ below _ _ s _ _ A = Qm
  generalize (List.toArray _ : Array Value) = args at hC hQm ⊢
  obtain ⟨hx, hb, hml, hown, hts⟩ := id hC
  obtain ⟨H, hH⟩ : ∃ q, q = s.heap := ⟨_, rfl⟩
  obtain ⟨locs, hlo⟩ : ∃ q : List Loc, q = [] := ⟨_, rfl⟩
  have hP : va_P G cl [(a0, .inr (10, [.ref a1, .ref a2, .int v_m_2, .int v_m_3, .int v_m_4, .int v_m_5, .int v_m_6, .int v_m_7, .int v_m_8, .int v_m_9, .long w_m_10, .ref a3, .ref a4, .ref a5, .ref a6, .ref a7, .ref a8, .ref a9, .ref a10, .ref a11, .ref a12, .ref a13, .ref a14, .ref a15, .ref a16, .ref a17, .ref a18, .ref a19, .ref a20, .ref a21, .ref a22, .ref a23, .ref a24, .ref a25, .ref a26, .ref a27, .ref a28, .ref a29, .ref a30, .ref a31, .int 0, .int v_m_41, .ref a32, .ref a33, .int v_m_44, .int v_m_45, .int v_m_46, .int v_m_47, .ref a34, .int v_m_49, .ref a35, .ref a36, .ref a37, .int v_m_53, .int v_m_54, .int v_m_55, .int v_m_56, .int v_m_57, .int v_m_58, .int v_m_59, .int v_m_60, .ref a38, .int v_m_62, .ref a39, .ref a40, .ref a41, .ref a42, .int v_m_67, .int v_m_68])), (a12, .inl (cI, 2, .inl (ex2 v_m_stones_0 v_m_stones_1))), (a23, .inl (cI, 62, .inl g_m_wLeft)), (a24, .inl (cI, 62, .inl g_m_wRight)), (a25, .inl (cI, 62, .inl g_m_wYear)), (a26, .inl (cI, 62, .inl g_m_wTrader)), (a27, .inl (cI, 62, .inl g_m_wHow)), (a32, .inl (cI, 30, .inl g_m_told)), (a33, .inl (cI, 30, .inl g_m_untold))] H := by rw [hH]; exact hP
  have hS : va_S A s.heap H locs := by rw [hH, hlo]; exact hS
  rw [← hlo]
  rw [← hH]
  refine lv_aload_n hx hb dX10_weighed_0 rfl (lv_at hl 0 rfl) ?_
  refine lv_iload_n hx hb dX10_weighed_1 rfl (lv_at hl 1 rfl) ?_
  refine lv_iload_n hx hb dX10_weighed_2 rfl (lv_at hl 2 rfl) ?_
  refine k_ci (wr := [(a23, .inl (cI, 62, .inl g_m_wLeft)), (a24, .inl (cI, 62, .inl g_m_wRight)), (a25, .inl (cI, 62, .inl g_m_wYear)), (a26, .inl (cI, 62, .inl g_m_wTrader)), (a27, .inl (cI, 62, .inl g_m_wHow)), (a32, .inl (cI, 30, .inl g_m_told)), (a33, .inl (cI, 30, .inl g_m_untold))]) (k_rV hC hN hZ hS hA hK hP hD (c6_X10_areSides l G cI cJ cB cZ a0 a1 a2 a3 a4 a5 a6 a7 a8 a9 a10 a11 a12 a13 a14 a15 a16 a17 a18 a19 a20 a21 a22 a23 a24 a25 a26 a27 a28 a29 a30 a31 a32 a33 a34 a35 a36 a37 a38 a39 a40 a41 a42 b1 b2 v_m_2 v_m_3 v_m_4 v_m_5 v_m_6 v_m_7 v_m_8 v_m_9 w_m_10 v_m_41 v_m_44 v_m_45 v_m_46 v_m_47 v_m_49 v_m_53 v_m_54 v_m_55 v_m_56 v_m_57 v_m_58 v_m_59 v_m_60 v_m_62 v_m_67 v_m_68 v_m_stones_0 v_m_stones_1 hv_0 hv_1 hv_2 hv_3 hv_4 hv_5 hv_6 hv_7 hv_8 hv_9 hv_10 hv_11 hv_12 hv_13 hv_14 hv_15 hv_16 hv_17 hv_18 hv_19 hv_20 hv_21 hv_22 hv_23 hv_24 hv_25 hv_26 hv_27 hv_28 hv_29 hv_30 hv_31 hv_32 hv_33 hv_34) [0, 1] rfl (by decide +kernel) mi_X10_areSides in_X10_areSides se_X10_areSides wm_X10_314 10 0 rfl rfl rfl hl.1 rfl rfl (Nat.le_of_ble_eq_true rfl) ⟨(Nat.le_of_ble_eq_true rfl), (Nat.le_of_ble_eq_true rfl)⟩ dX10_weighed_3 ⟨(Nat.le_of_ble_eq_true rfl), (Nat.le_of_ble_eq_true rfl)⟩) hP hD hS hA [0, 1] [2, 3, 4, 5, 6, 7, 8] rfl rfl (by decide +kernel) (by decide +kernel) (fun r1 u1 H locs hp hP hD hS => ?_)
  have hp : (0 ≤ r1.toInt ∧ r1.toInt ≤ 1) := hp
  have hP : va_P G cl [(a23, .inl (cI, 62, .inl g_m_wLeft)), (a24, .inl (cI, 62, .inl g_m_wRight)), (a25, .inl (cI, 62, .inl g_m_wYear)), (a26, .inl (cI, 62, .inl g_m_wTrader)), (a27, .inl (cI, 62, .inl g_m_wHow)), (a32, .inl (cI, 30, .inl g_m_told)), (a33, .inl (cI, 30, .inl g_m_untold)), (a0, .inr (10, [.ref a1, .ref a2, .int v_m_2, .int v_m_3, .int v_m_4, .int v_m_5, .int v_m_6, .int v_m_7, .int v_m_8, .int v_m_9, .long w_m_10, .ref a3, .ref a4, .ref a5, .ref a6, .ref a7, .ref a8, .ref a9, .ref a10, .ref a11, .ref a12, .ref a13, .ref a14, .ref a15, .ref a16, .ref a17, .ref a18, .ref a19, .ref a20, .ref a21, .ref a22, .ref a23, .ref a24, .ref a25, .ref a26, .ref a27, .ref a28, .ref a29, .ref a30, .ref a31, .int 0, .int v_m_41, .ref a32, .ref a33, .int v_m_44, .int v_m_45, .int v_m_46, .int v_m_47, .ref a34, .int v_m_49, .ref a35, .ref a36, .ref a37, .int v_m_53, .int v_m_54, .int v_m_55, .int v_m_56, .int v_m_57, .int v_m_58, .int v_m_59, .int v_m_60, .ref a38, .int v_m_62, .ref a39, .ref a40, .ref a41, .ref a42, .int v_m_67, .int v_m_68])), (a12, .inl (cI, 2, .inl (ex2 v_m_stones_0 v_m_stones_1)))] H := hP
  have hD : va_D A [(a23, .inl (cI, 62, .inl g_m_wLeft)), (a24, .inl (cI, 62, .inl g_m_wRight)), (a25, .inl (cI, 62, .inl g_m_wYear)), (a26, .inl (cI, 62, .inl g_m_wTrader)), (a27, .inl (cI, 62, .inl g_m_wHow)), (a32, .inl (cI, 30, .inl g_m_told)), (a33, .inl (cI, 30, .inl g_m_untold)), (a0, .inr (10, [.ref a1, .ref a2, .int v_m_2, .int v_m_3, .int v_m_4, .int v_m_5, .int v_m_6, .int v_m_7, .int v_m_8, .int v_m_9, .long w_m_10, .ref a3, .ref a4, .ref a5, .ref a6, .ref a7, .ref a8, .ref a9, .ref a10, .ref a11, .ref a12, .ref a13, .ref a14, .ref a15, .ref a16, .ref a17, .ref a18, .ref a19, .ref a20, .ref a21, .ref a22, .ref a23, .ref a24, .ref a25, .ref a26, .ref a27, .ref a28, .ref a29, .ref a30, .ref a31, .int 0, .int v_m_41, .ref a32, .ref a33, .int v_m_44, .int v_m_45, .int v_m_46, .int v_m_47, .ref a34, .int v_m_49, .ref a35, .ref a36, .ref a37, .int v_m_53, .int v_m_54, .int v_m_55, .int v_m_56, .int v_m_57, .int v_m_58, .int v_m_59, .int v_m_60, .ref a38, .int v_m_62, .ref a39, .ref a40, .ref a41, .ref a42, .int v_m_67, .int v_m_68])), (a12, .inl (cI, 2, .inl (ex2 v_m_stones_0 v_m_stones_1)))] := hD
  have hq1 := hp
  refine lv_if_eq (tgt := 49) hx hb dX10_weighed_6 (by decide) (fun c2 => ?_) (fun c2 => ?_)
  · have dc2 : r1.toInt = 0 := (fa_eq _ _).mp c2
    refine lv_iconst (v := (-1)) hx hb dX10_weighed_49 (by decide) ?_
    have l_l3 : ((-1) : Int32).toInt = (-1) := rfl
    rw [← hQm]
    exact k_iret hC hr hlk hK hP hD hS (v_m_44, v_m_47, g_m_wLeft, g_m_wRight, g_m_wYear, g_m_wTrader, g_m_wHow, g_m_told, g_m_untold) [7, 8, 0, 1, 2, 3, 4, 5, 6] rfl (by decide +kernel) (show (-1) ≤ ((-1) : Int32).toInt ∧ ((-1) : Int32).toInt ≤ 29 ∧ 0 ≤ v_m_44.toInt ∧ v_m_44.toInt ≤ 30 ∧ 0 ≤ v_m_47.toInt ∧ v_m_47.toInt ≤ 1 ∧ (v_m_47.toInt ≤ v_m_47.toInt) from by omega) (Nat.le_of_ble_eq_true rfl) (Nat.le_of_ble_eq_true rfl) dX10_weighed_50
  · have dc2 : r1.toInt ≠ 0 := fa_ne c2
    refine lv_iload_n hx hb dX10_weighed_9 rfl (lv_at hl 3 rfl) ?_
    refine lv_iconst (v := 0) hx hb dX10_weighed_10 (by decide) ?_
    refine lv_bipush (v := 9) hx hb dX10_weighed_11 (by decide) ?_
    have l_l5 : (0 : Int32).toInt = 0 := rfl
    have l_l6 : (9 : Int32).toInt = 9 := rfl
    refine k_ci (wr := [(a23, .inl (cI, 62, .inl g_m_wLeft)), (a24, .inl (cI, 62, .inl g_m_wRight)), (a25, .inl (cI, 62, .inl g_m_wYear)), (a26, .inl (cI, 62, .inl g_m_wTrader)), (a27, .inl (cI, 62, .inl g_m_wHow)), (a32, .inl (cI, 30, .inl g_m_told)), (a33, .inl (cI, 30, .inl g_m_untold)), (a0, .inr (10, [.ref a1, .ref a2, .int v_m_2, .int v_m_3, .int v_m_4, .int v_m_5, .int v_m_6, .int v_m_7, .int v_m_8, .int v_m_9, .long w_m_10, .ref a3, .ref a4, .ref a5, .ref a6, .ref a7, .ref a8, .ref a9, .ref a10, .ref a11, .ref a12, .ref a13, .ref a14, .ref a15, .ref a16, .ref a17, .ref a18, .ref a19, .ref a20, .ref a21, .ref a22, .ref a23, .ref a24, .ref a25, .ref a26, .ref a27, .ref a28, .ref a29, .ref a30, .ref a31, .int 0, .int v_m_41, .ref a32, .ref a33, .int v_m_44, .int v_m_45, .int v_m_46, .int v_m_47, .ref a34, .int v_m_49, .ref a35, .ref a36, .ref a37, .int v_m_53, .int v_m_54, .int v_m_55, .int v_m_56, .int v_m_57, .int v_m_58, .int v_m_59, .int v_m_60, .ref a38, .int v_m_62, .ref a39, .ref a40, .ref a41, .ref a42, .int v_m_67, .int v_m_68])), (a12, .inl (cI, 2, .inl (ex2 v_m_stones_0 v_m_stones_1)))]) (k_rS hC hN hZ hS hA hK hP hD (c7_X10_isIn l G cI cJ cB cZ b3 0 9 (by omega) (by omega) (by omega) (by omega)) [] rfl (by decide +kernel) mi_X10_isIn st_X10_isIn wm_X10_307 hl.1 rfl rfl (Nat.le_of_ble_eq_true rfl) ⟨(Nat.le_of_ble_eq_true rfl), (Nat.le_of_ble_eq_true rfl)⟩ dX10_weighed_13 ⟨(Nat.le_of_ble_eq_true rfl), (Nat.le_of_ble_eq_true rfl)⟩) hP hD hS hA [] [0, 1, 2, 3, 4, 5, 6, 7, 8] rfl rfl (by decide +kernel) (by decide +kernel) (fun r4 u4 H locs hp hP hD hS => ?_)
    have hP : va_P G cl [(a23, .inl (cI, 62, .inl g_m_wLeft)), (a24, .inl (cI, 62, .inl g_m_wRight)), (a25, .inl (cI, 62, .inl g_m_wYear)), (a26, .inl (cI, 62, .inl g_m_wTrader)), (a27, .inl (cI, 62, .inl g_m_wHow)), (a32, .inl (cI, 30, .inl g_m_told)), (a33, .inl (cI, 30, .inl g_m_untold)), (a0, .inr (10, [.ref a1, .ref a2, .int v_m_2, .int v_m_3, .int v_m_4, .int v_m_5, .int v_m_6, .int v_m_7, .int v_m_8, .int v_m_9, .long w_m_10, .ref a3, .ref a4, .ref a5, .ref a6, .ref a7, .ref a8, .ref a9, .ref a10, .ref a11, .ref a12, .ref a13, .ref a14, .ref a15, .ref a16, .ref a17, .ref a18, .ref a19, .ref a20, .ref a21, .ref a22, .ref a23, .ref a24, .ref a25, .ref a26, .ref a27, .ref a28, .ref a29, .ref a30, .ref a31, .int 0, .int v_m_41, .ref a32, .ref a33, .int v_m_44, .int v_m_45, .int v_m_46, .int v_m_47, .ref a34, .int v_m_49, .ref a35, .ref a36, .ref a37, .int v_m_53, .int v_m_54, .int v_m_55, .int v_m_56, .int v_m_57, .int v_m_58, .int v_m_59, .int v_m_60, .ref a38, .int v_m_62, .ref a39, .ref a40, .ref a41, .ref a42, .int v_m_67, .int v_m_68])), (a12, .inl (cI, 2, .inl (ex2 v_m_stones_0 v_m_stones_1)))] H := hP
    have hD : va_D A [(a23, .inl (cI, 62, .inl g_m_wLeft)), (a24, .inl (cI, 62, .inl g_m_wRight)), (a25, .inl (cI, 62, .inl g_m_wYear)), (a26, .inl (cI, 62, .inl g_m_wTrader)), (a27, .inl (cI, 62, .inl g_m_wHow)), (a32, .inl (cI, 30, .inl g_m_told)), (a33, .inl (cI, 30, .inl g_m_untold)), (a0, .inr (10, [.ref a1, .ref a2, .int v_m_2, .int v_m_3, .int v_m_4, .int v_m_5, .int v_m_6, .int v_m_7, .int v_m_8, .int v_m_9, .long w_m_10, .ref a3, .ref a4, .ref a5, .ref a6, .ref a7, .ref a8, .ref a9, .ref a10, .ref a11, .ref a12, .ref a13, .ref a14, .ref a15, .ref a16, .ref a17, .ref a18, .ref a19, .ref a20, .ref a21, .ref a22, .ref a23, .ref a24, .ref a25, .ref a26, .ref a27, .ref a28, .ref a29, .ref a30, .ref a31, .int 0, .int v_m_41, .ref a32, .ref a33, .int v_m_44, .int v_m_45, .int v_m_46, .int v_m_47, .ref a34, .int v_m_49, .ref a35, .ref a36, .ref a37, .int v_m_53, .int v_m_54, .int v_m_55, .int v_m_56, .int v_m_57, .int v_m_58, .int v_m_59, .int v_m_60, .ref a38, .int v_m_62, .ref a39, .ref a40, .ref a41, .ref a42, .int v_m_67, .int v_m_68])), (a12, .inl (cI, 2, .inl (ex2 v_m_stones_0 v_m_stones_1)))] := hD
    rcases (show (r4 = 0 ∧ (True) ∧ (inI 0 b3 0 9)) ∨ (r4 = 1 ∧ (0 ≤ b3.toInt ∧ b3.toInt ≤ 9) ∧ (inI 1 b3 0 9)) from hp) with ⟨rfl, hq4, hin_13⟩ | ⟨rfl, hq4, hin_13⟩
    · clear hp
      have l_4 : (0 : Int32).toInt = 0 := rfl
      refine lv_if_eq (tgt := 49) hx hb dX10_weighed_16 (by decide) (fun _ => ?_) (fun c_ => absurd (by decide +kernel) c_)
      refine lv_iconst (v := (-1)) hx hb dX10_weighed_49 (by decide) ?_
      have l_l7 : ((-1) : Int32).toInt = (-1) := rfl
      rw [← hQm]
      exact k_iret hC hr hlk hK hP hD hS (v_m_44, v_m_47, g_m_wLeft, g_m_wRight, g_m_wYear, g_m_wTrader, g_m_wHow, g_m_told, g_m_untold) [7, 8, 0, 1, 2, 3, 4, 5, 6] rfl (by decide +kernel) (show (-1) ≤ ((-1) : Int32).toInt ∧ ((-1) : Int32).toInt ≤ 29 ∧ 0 ≤ v_m_44.toInt ∧ v_m_44.toInt ≤ 30 ∧ 0 ≤ v_m_47.toInt ∧ v_m_47.toInt ≤ 1 ∧ (v_m_47.toInt ≤ v_m_47.toInt) from by omega) (Nat.le_of_ble_eq_true rfl) (Nat.le_of_ble_eq_true rfl) dX10_weighed_50
    · clear hp
      have l_4 : (1 : Int32).toInt = 1 := rfl
      refine lv_if_eq (tgt := 49) hx hb dX10_weighed_16 (by decide) (fun c_ => absurd c_ (by decide +kernel)) (fun _ => ?_)
      refine lv_iload hx hb dX10_weighed_19 (lv_at hl 4 rfl) ?_
      refine lv_iconst (v := 0) hx hb dX10_weighed_21 (by decide) ?_
      refine lv_bipush (v := 9) hx hb dX10_weighed_22 (by decide) ?_
      have l_l9 : (0 : Int32).toInt = 0 := rfl
      have l_l10 : (9 : Int32).toInt = 9 := rfl
      refine k_ci (wr := [(a23, .inl (cI, 62, .inl g_m_wLeft)), (a24, .inl (cI, 62, .inl g_m_wRight)), (a25, .inl (cI, 62, .inl g_m_wYear)), (a26, .inl (cI, 62, .inl g_m_wTrader)), (a27, .inl (cI, 62, .inl g_m_wHow)), (a32, .inl (cI, 30, .inl g_m_told)), (a33, .inl (cI, 30, .inl g_m_untold)), (a0, .inr (10, [.ref a1, .ref a2, .int v_m_2, .int v_m_3, .int v_m_4, .int v_m_5, .int v_m_6, .int v_m_7, .int v_m_8, .int v_m_9, .long w_m_10, .ref a3, .ref a4, .ref a5, .ref a6, .ref a7, .ref a8, .ref a9, .ref a10, .ref a11, .ref a12, .ref a13, .ref a14, .ref a15, .ref a16, .ref a17, .ref a18, .ref a19, .ref a20, .ref a21, .ref a22, .ref a23, .ref a24, .ref a25, .ref a26, .ref a27, .ref a28, .ref a29, .ref a30, .ref a31, .int 0, .int v_m_41, .ref a32, .ref a33, .int v_m_44, .int v_m_45, .int v_m_46, .int v_m_47, .ref a34, .int v_m_49, .ref a35, .ref a36, .ref a37, .int v_m_53, .int v_m_54, .int v_m_55, .int v_m_56, .int v_m_57, .int v_m_58, .int v_m_59, .int v_m_60, .ref a38, .int v_m_62, .ref a39, .ref a40, .ref a41, .ref a42, .int v_m_67, .int v_m_68])), (a12, .inl (cI, 2, .inl (ex2 v_m_stones_0 v_m_stones_1)))]) (k_rS hC hN hZ hS hA hK hP hD (c7_X10_isIn l G cI cJ cB cZ b4 0 9 (by omega) (by omega) (by omega) (by omega)) [] rfl (by decide +kernel) mi_X10_isIn st_X10_isIn wm_X10_307 hl.1 rfl rfl (Nat.le_of_ble_eq_true rfl) ⟨(Nat.le_of_ble_eq_true rfl), (Nat.le_of_ble_eq_true rfl)⟩ dX10_weighed_24 ⟨(Nat.le_of_ble_eq_true rfl), (Nat.le_of_ble_eq_true rfl)⟩) hP hD hS hA [] [0, 1, 2, 3, 4, 5, 6, 7, 8] rfl rfl (by decide +kernel) (by decide +kernel) (fun r8 u8 H locs hp hP hD hS => ?_)
      have hP : va_P G cl [(a23, .inl (cI, 62, .inl g_m_wLeft)), (a24, .inl (cI, 62, .inl g_m_wRight)), (a25, .inl (cI, 62, .inl g_m_wYear)), (a26, .inl (cI, 62, .inl g_m_wTrader)), (a27, .inl (cI, 62, .inl g_m_wHow)), (a32, .inl (cI, 30, .inl g_m_told)), (a33, .inl (cI, 30, .inl g_m_untold)), (a0, .inr (10, [.ref a1, .ref a2, .int v_m_2, .int v_m_3, .int v_m_4, .int v_m_5, .int v_m_6, .int v_m_7, .int v_m_8, .int v_m_9, .long w_m_10, .ref a3, .ref a4, .ref a5, .ref a6, .ref a7, .ref a8, .ref a9, .ref a10, .ref a11, .ref a12, .ref a13, .ref a14, .ref a15, .ref a16, .ref a17, .ref a18, .ref a19, .ref a20, .ref a21, .ref a22, .ref a23, .ref a24, .ref a25, .ref a26, .ref a27, .ref a28, .ref a29, .ref a30, .ref a31, .int 0, .int v_m_41, .ref a32, .ref a33, .int v_m_44, .int v_m_45, .int v_m_46, .int v_m_47, .ref a34, .int v_m_49, .ref a35, .ref a36, .ref a37, .int v_m_53, .int v_m_54, .int v_m_55, .int v_m_56, .int v_m_57, .int v_m_58, .int v_m_59, .int v_m_60, .ref a38, .int v_m_62, .ref a39, .ref a40, .ref a41, .ref a42, .int v_m_67, .int v_m_68])), (a12, .inl (cI, 2, .inl (ex2 v_m_stones_0 v_m_stones_1)))] H := hP
      have hD : va_D A [(a23, .inl (cI, 62, .inl g_m_wLeft)), (a24, .inl (cI, 62, .inl g_m_wRight)), (a25, .inl (cI, 62, .inl g_m_wYear)), (a26, .inl (cI, 62, .inl g_m_wTrader)), (a27, .inl (cI, 62, .inl g_m_wHow)), (a32, .inl (cI, 30, .inl g_m_told)), (a33, .inl (cI, 30, .inl g_m_untold)), (a0, .inr (10, [.ref a1, .ref a2, .int v_m_2, .int v_m_3, .int v_m_4, .int v_m_5, .int v_m_6, .int v_m_7, .int v_m_8, .int v_m_9, .long w_m_10, .ref a3, .ref a4, .ref a5, .ref a6, .ref a7, .ref a8, .ref a9, .ref a10, .ref a11, .ref a12, .ref a13, .ref a14, .ref a15, .ref a16, .ref a17, .ref a18, .ref a19, .ref a20, .ref a21, .ref a22, .ref a23, .ref a24, .ref a25, .ref a26, .ref a27, .ref a28, .ref a29, .ref a30, .ref a31, .int 0, .int v_m_41, .ref a32, .ref a33, .int v_m_44, .int v_m_45, .int v_m_46, .int v_m_47, .ref a34, .int v_m_49, .ref a35, .ref a36, .ref a37, .int v_m_53, .int v_m_54, .int v_m_55, .int v_m_56, .int v_m_57, .int v_m_58, .int v_m_59, .int v_m_60, .ref a38, .int v_m_62, .ref a39, .ref a40, .ref a41, .ref a42, .int v_m_67, .int v_m_68])), (a12, .inl (cI, 2, .inl (ex2 v_m_stones_0 v_m_stones_1)))] := hD
      rcases (show (r8 = 0 ∧ (True) ∧ (inI 0 b4 0 9)) ∨ (r8 = 1 ∧ (0 ≤ b4.toInt ∧ b4.toInt ≤ 9) ∧ (inI 1 b4 0 9)) from hp) with ⟨rfl, hq8, hin_24⟩ | ⟨rfl, hq8, hin_24⟩
      · clear hp
        have l_8 : (0 : Int32).toInt = 0 := rfl
        refine lv_if_eq (tgt := 49) hx hb dX10_weighed_27 (by decide) (fun _ => ?_) (fun c_ => absurd (by decide +kernel) c_)
        refine lv_iconst (v := (-1)) hx hb dX10_weighed_49 (by decide) ?_
        have l_l11 : ((-1) : Int32).toInt = (-1) := rfl
        rw [← hQm]
        exact k_iret hC hr hlk hK hP hD hS (v_m_44, v_m_47, g_m_wLeft, g_m_wRight, g_m_wYear, g_m_wTrader, g_m_wHow, g_m_told, g_m_untold) [7, 8, 0, 1, 2, 3, 4, 5, 6] rfl (by decide +kernel) (show (-1) ≤ ((-1) : Int32).toInt ∧ ((-1) : Int32).toInt ≤ 29 ∧ 0 ≤ v_m_44.toInt ∧ v_m_44.toInt ≤ 30 ∧ 0 ≤ v_m_47.toInt ∧ v_m_47.toInt ≤ 1 ∧ (v_m_47.toInt ≤ v_m_47.toInt) from by omega) (Nat.le_of_ble_eq_true rfl) (Nat.le_of_ble_eq_true rfl) dX10_weighed_50
      · clear hp
        have l_8 : (1 : Int32).toInt = 1 := rfl
        refine lv_if_eq (tgt := 49) hx hb dX10_weighed_27 (by decide) (fun c_ => absurd c_ (by decide +kernel)) (fun _ => ?_)
        refine lv_iload hx hb dX10_weighed_30 (lv_at hl 5 rfl) ?_
        refine lv_iconst (v := 0) hx hb dX10_weighed_32 (by decide) ?_
        refine lv_iconst (v := 2) hx hb dX10_weighed_33 (by decide) ?_
        have l_l13 : (0 : Int32).toInt = 0 := rfl
        have l_l14 : (2 : Int32).toInt = 2 := rfl
        refine k_ci (wr := [(a23, .inl (cI, 62, .inl g_m_wLeft)), (a24, .inl (cI, 62, .inl g_m_wRight)), (a25, .inl (cI, 62, .inl g_m_wYear)), (a26, .inl (cI, 62, .inl g_m_wTrader)), (a27, .inl (cI, 62, .inl g_m_wHow)), (a32, .inl (cI, 30, .inl g_m_told)), (a33, .inl (cI, 30, .inl g_m_untold)), (a0, .inr (10, [.ref a1, .ref a2, .int v_m_2, .int v_m_3, .int v_m_4, .int v_m_5, .int v_m_6, .int v_m_7, .int v_m_8, .int v_m_9, .long w_m_10, .ref a3, .ref a4, .ref a5, .ref a6, .ref a7, .ref a8, .ref a9, .ref a10, .ref a11, .ref a12, .ref a13, .ref a14, .ref a15, .ref a16, .ref a17, .ref a18, .ref a19, .ref a20, .ref a21, .ref a22, .ref a23, .ref a24, .ref a25, .ref a26, .ref a27, .ref a28, .ref a29, .ref a30, .ref a31, .int 0, .int v_m_41, .ref a32, .ref a33, .int v_m_44, .int v_m_45, .int v_m_46, .int v_m_47, .ref a34, .int v_m_49, .ref a35, .ref a36, .ref a37, .int v_m_53, .int v_m_54, .int v_m_55, .int v_m_56, .int v_m_57, .int v_m_58, .int v_m_59, .int v_m_60, .ref a38, .int v_m_62, .ref a39, .ref a40, .ref a41, .ref a42, .int v_m_67, .int v_m_68])), (a12, .inl (cI, 2, .inl (ex2 v_m_stones_0 v_m_stones_1)))]) (k_rS hC hN hZ hS hA hK hP hD (c8_X10_isIn l G cI cJ cB cZ b5 0 2 (by omega) (by omega) (by omega) (by omega)) [] rfl (by decide +kernel) mi_X10_isIn st_X10_isIn wm_X10_307 hl.1 rfl rfl (Nat.le_of_ble_eq_true rfl) ⟨(Nat.le_of_ble_eq_true rfl), (Nat.le_of_ble_eq_true rfl)⟩ dX10_weighed_34 ⟨(Nat.le_of_ble_eq_true rfl), (Nat.le_of_ble_eq_true rfl)⟩) hP hD hS hA [] [0, 1, 2, 3, 4, 5, 6, 7, 8] rfl rfl (by decide +kernel) (by decide +kernel) (fun r12 u12 H locs hp hP hD hS => ?_)
        have hP : va_P G cl [(a23, .inl (cI, 62, .inl g_m_wLeft)), (a24, .inl (cI, 62, .inl g_m_wRight)), (a25, .inl (cI, 62, .inl g_m_wYear)), (a26, .inl (cI, 62, .inl g_m_wTrader)), (a27, .inl (cI, 62, .inl g_m_wHow)), (a32, .inl (cI, 30, .inl g_m_told)), (a33, .inl (cI, 30, .inl g_m_untold)), (a0, .inr (10, [.ref a1, .ref a2, .int v_m_2, .int v_m_3, .int v_m_4, .int v_m_5, .int v_m_6, .int v_m_7, .int v_m_8, .int v_m_9, .long w_m_10, .ref a3, .ref a4, .ref a5, .ref a6, .ref a7, .ref a8, .ref a9, .ref a10, .ref a11, .ref a12, .ref a13, .ref a14, .ref a15, .ref a16, .ref a17, .ref a18, .ref a19, .ref a20, .ref a21, .ref a22, .ref a23, .ref a24, .ref a25, .ref a26, .ref a27, .ref a28, .ref a29, .ref a30, .ref a31, .int 0, .int v_m_41, .ref a32, .ref a33, .int v_m_44, .int v_m_45, .int v_m_46, .int v_m_47, .ref a34, .int v_m_49, .ref a35, .ref a36, .ref a37, .int v_m_53, .int v_m_54, .int v_m_55, .int v_m_56, .int v_m_57, .int v_m_58, .int v_m_59, .int v_m_60, .ref a38, .int v_m_62, .ref a39, .ref a40, .ref a41, .ref a42, .int v_m_67, .int v_m_68])), (a12, .inl (cI, 2, .inl (ex2 v_m_stones_0 v_m_stones_1)))] H := hP
        have hD : va_D A [(a23, .inl (cI, 62, .inl g_m_wLeft)), (a24, .inl (cI, 62, .inl g_m_wRight)), (a25, .inl (cI, 62, .inl g_m_wYear)), (a26, .inl (cI, 62, .inl g_m_wTrader)), (a27, .inl (cI, 62, .inl g_m_wHow)), (a32, .inl (cI, 30, .inl g_m_told)), (a33, .inl (cI, 30, .inl g_m_untold)), (a0, .inr (10, [.ref a1, .ref a2, .int v_m_2, .int v_m_3, .int v_m_4, .int v_m_5, .int v_m_6, .int v_m_7, .int v_m_8, .int v_m_9, .long w_m_10, .ref a3, .ref a4, .ref a5, .ref a6, .ref a7, .ref a8, .ref a9, .ref a10, .ref a11, .ref a12, .ref a13, .ref a14, .ref a15, .ref a16, .ref a17, .ref a18, .ref a19, .ref a20, .ref a21, .ref a22, .ref a23, .ref a24, .ref a25, .ref a26, .ref a27, .ref a28, .ref a29, .ref a30, .ref a31, .int 0, .int v_m_41, .ref a32, .ref a33, .int v_m_44, .int v_m_45, .int v_m_46, .int v_m_47, .ref a34, .int v_m_49, .ref a35, .ref a36, .ref a37, .int v_m_53, .int v_m_54, .int v_m_55, .int v_m_56, .int v_m_57, .int v_m_58, .int v_m_59, .int v_m_60, .ref a38, .int v_m_62, .ref a39, .ref a40, .ref a41, .ref a42, .int v_m_67, .int v_m_68])), (a12, .inl (cI, 2, .inl (ex2 v_m_stones_0 v_m_stones_1)))] := hD
        rcases (show (r12 = 0 ∧ (True) ∧ (inI 0 b5 0 2)) ∨ (r12 = 1 ∧ (0 ≤ b5.toInt ∧ b5.toInt ≤ 2) ∧ (inI 1 b5 0 2)) from hp) with ⟨rfl, hq12, hin_34⟩ | ⟨rfl, hq12, hin_34⟩
        · clear hp
          have l_12 : (0 : Int32).toInt = 0 := rfl
          refine lv_if_eq (tgt := 49) hx hb dX10_weighed_37 (by decide) (fun _ => ?_) (fun c_ => absurd (by decide +kernel) c_)
          refine lv_iconst (v := (-1)) hx hb dX10_weighed_49 (by decide) ?_
          have l_l15 : ((-1) : Int32).toInt = (-1) := rfl
          rw [← hQm]
          exact k_iret hC hr hlk hK hP hD hS (v_m_44, v_m_47, g_m_wLeft, g_m_wRight, g_m_wYear, g_m_wTrader, g_m_wHow, g_m_told, g_m_untold) [7, 8, 0, 1, 2, 3, 4, 5, 6] rfl (by decide +kernel) (show (-1) ≤ ((-1) : Int32).toInt ∧ ((-1) : Int32).toInt ≤ 29 ∧ 0 ≤ v_m_44.toInt ∧ v_m_44.toInt ≤ 30 ∧ 0 ≤ v_m_47.toInt ∧ v_m_47.toInt ≤ 1 ∧ (v_m_47.toInt ≤ v_m_47.toInt) from by omega) (Nat.le_of_ble_eq_true rfl) (Nat.le_of_ble_eq_true rfl) dX10_weighed_50
        · clear hp
          have l_12 : (1 : Int32).toInt = 1 := rfl
          refine lv_if_eq (tgt := 49) hx hb dX10_weighed_37 (by decide) (fun c_ => absurd c_ (by decide +kernel)) (fun _ => ?_)
          refine lv_aload_n hx hb dX10_weighed_40 rfl (lv_at hl 0 rfl) ?_
          refine k_get hC hK hP iX10 7 44 wf_X10_249 rfl (by decide) rfl rfl dX10_weighed_41 ?_
          refine lv_bipush (v := 30) hx hb dX10_weighed_44 (by decide) ?_
          refine lv_icmp_ne (tgt := 51) hx hb dX10_weighed_46 (by decide) (fun c16 => ?_) (fun c16 => ?_)
          · have dc16 : v_m_44.toInt ≠ 30 := fa_ne c16
            refine lv_bipush (v := 32) hx hb dX10_weighed_51 (by decide) ?_
            refine lv_aload_n hx hb dX10_weighed_53 rfl (lv_at hl 0 rfl) ?_
            refine k_get hC hK hP iX10 7 44 wf_X10_249 rfl (by decide) rfl rfl dX10_weighed_54 ?_
            refine lv_iadd hx hb dX10_weighed_57 ?_
            refine t_i (fun q => q.toInt = 32 + v_m_44.toInt) (add_i (by show (-2147483648 : Int) ≤ 32 + v_m_44.toInt; omega) (by show 32 + v_m_44.toInt ≤ (2147483647 : Int); omega)) (fun z17 tz17 => ?_)
            refine lv_istore (lv' := [(6, .int z17), (0, .ref a0), (1, .int b1), (2, .int b2), (3, .int b3), (4, .int b4), (5, .int b5)]) hx hb dX10_weighed_58 hl (by decide) rfl (fun ls hl => ?_)
            refine lv_aload_n hx hb dX10_weighed_60 rfl (lv_at hl 1 rfl) ?_
            refine k_get hC hK hP iX10 7 31 wf_X10_172 rfl (by decide) rfl rfl dX10_weighed_61 ?_
            refine lv_iload hx hb dX10_weighed_64 (lv_at hl 0 rfl) ?_
            refine lv_iload_n hx hb dX10_weighed_66 rfl (lv_at hl 2 rfl) ?_
            refine t_iast hC hK hP hD hS 0 rfl (by omega) (by omega) (TA.all _) ⟨i_lo _, i_hi _⟩ dX10_weighed_67 (fun f18 H locs hT_f18 hP hD hS => ?_)
            have hP : va_P G cl [(a23, .inl (cI, 62, .inl f18)), (a24, .inl (cI, 62, .inl g_m_wRight)), (a25, .inl (cI, 62, .inl g_m_wYear)), (a26, .inl (cI, 62, .inl g_m_wTrader)), (a27, .inl (cI, 62, .inl g_m_wHow)), (a32, .inl (cI, 30, .inl g_m_told)), (a33, .inl (cI, 30, .inl g_m_untold)), (a0, .inr (10, [.ref a1, .ref a2, .int v_m_2, .int v_m_3, .int v_m_4, .int v_m_5, .int v_m_6, .int v_m_7, .int v_m_8, .int v_m_9, .long w_m_10, .ref a3, .ref a4, .ref a5, .ref a6, .ref a7, .ref a8, .ref a9, .ref a10, .ref a11, .ref a12, .ref a13, .ref a14, .ref a15, .ref a16, .ref a17, .ref a18, .ref a19, .ref a20, .ref a21, .ref a22, .ref a23, .ref a24, .ref a25, .ref a26, .ref a27, .ref a28, .ref a29, .ref a30, .ref a31, .int 0, .int v_m_41, .ref a32, .ref a33, .int v_m_44, .int v_m_45, .int v_m_46, .int v_m_47, .ref a34, .int v_m_49, .ref a35, .ref a36, .ref a37, .int v_m_53, .int v_m_54, .int v_m_55, .int v_m_56, .int v_m_57, .int v_m_58, .int v_m_59, .int v_m_60, .ref a38, .int v_m_62, .ref a39, .ref a40, .ref a41, .ref a42, .int v_m_67, .int v_m_68])), (a12, .inl (cI, 2, .inl (ex2 v_m_stones_0 v_m_stones_1)))] H := hP
            have hD : va_D A [(a23, .inl (cI, 62, .inl f18)), (a24, .inl (cI, 62, .inl g_m_wRight)), (a25, .inl (cI, 62, .inl g_m_wYear)), (a26, .inl (cI, 62, .inl g_m_wTrader)), (a27, .inl (cI, 62, .inl g_m_wHow)), (a32, .inl (cI, 30, .inl g_m_told)), (a33, .inl (cI, 30, .inl g_m_untold)), (a0, .inr (10, [.ref a1, .ref a2, .int v_m_2, .int v_m_3, .int v_m_4, .int v_m_5, .int v_m_6, .int v_m_7, .int v_m_8, .int v_m_9, .long w_m_10, .ref a3, .ref a4, .ref a5, .ref a6, .ref a7, .ref a8, .ref a9, .ref a10, .ref a11, .ref a12, .ref a13, .ref a14, .ref a15, .ref a16, .ref a17, .ref a18, .ref a19, .ref a20, .ref a21, .ref a22, .ref a23, .ref a24, .ref a25, .ref a26, .ref a27, .ref a28, .ref a29, .ref a30, .ref a31, .int 0, .int v_m_41, .ref a32, .ref a33, .int v_m_44, .int v_m_45, .int v_m_46, .int v_m_47, .ref a34, .int v_m_49, .ref a35, .ref a36, .ref a37, .int v_m_53, .int v_m_54, .int v_m_55, .int v_m_56, .int v_m_57, .int v_m_58, .int v_m_59, .int v_m_60, .ref a38, .int v_m_62, .ref a39, .ref a40, .ref a41, .ref a42, .int v_m_67, .int v_m_68])), (a12, .inl (cI, 2, .inl (ex2 v_m_stones_0 v_m_stones_1)))] := hD
            refine lv_aload_n hx hb dX10_weighed_68 rfl (lv_at hl 1 rfl) ?_
            refine k_get hC hK hP iX10 7 32 wf_X10_175 rfl (by decide) rfl rfl dX10_weighed_69 ?_
            refine lv_iload hx hb dX10_weighed_72 (lv_at hl 0 rfl) ?_
            refine lv_iload_n hx hb dX10_weighed_74 rfl (lv_at hl 3 rfl) ?_
            refine t_iast hC hK hP hD hS 1 rfl (by omega) (by omega) (TA.all _) ⟨i_lo _, i_hi _⟩ dX10_weighed_75 (fun f19 H locs hT_f19 hP hD hS => ?_)
            have hP : va_P G cl [(a23, .inl (cI, 62, .inl f18)), (a24, .inl (cI, 62, .inl f19)), (a25, .inl (cI, 62, .inl g_m_wYear)), (a26, .inl (cI, 62, .inl g_m_wTrader)), (a27, .inl (cI, 62, .inl g_m_wHow)), (a32, .inl (cI, 30, .inl g_m_told)), (a33, .inl (cI, 30, .inl g_m_untold)), (a0, .inr (10, [.ref a1, .ref a2, .int v_m_2, .int v_m_3, .int v_m_4, .int v_m_5, .int v_m_6, .int v_m_7, .int v_m_8, .int v_m_9, .long w_m_10, .ref a3, .ref a4, .ref a5, .ref a6, .ref a7, .ref a8, .ref a9, .ref a10, .ref a11, .ref a12, .ref a13, .ref a14, .ref a15, .ref a16, .ref a17, .ref a18, .ref a19, .ref a20, .ref a21, .ref a22, .ref a23, .ref a24, .ref a25, .ref a26, .ref a27, .ref a28, .ref a29, .ref a30, .ref a31, .int 0, .int v_m_41, .ref a32, .ref a33, .int v_m_44, .int v_m_45, .int v_m_46, .int v_m_47, .ref a34, .int v_m_49, .ref a35, .ref a36, .ref a37, .int v_m_53, .int v_m_54, .int v_m_55, .int v_m_56, .int v_m_57, .int v_m_58, .int v_m_59, .int v_m_60, .ref a38, .int v_m_62, .ref a39, .ref a40, .ref a41, .ref a42, .int v_m_67, .int v_m_68])), (a12, .inl (cI, 2, .inl (ex2 v_m_stones_0 v_m_stones_1)))] H := hP
            have hD : va_D A [(a23, .inl (cI, 62, .inl f18)), (a24, .inl (cI, 62, .inl f19)), (a25, .inl (cI, 62, .inl g_m_wYear)), (a26, .inl (cI, 62, .inl g_m_wTrader)), (a27, .inl (cI, 62, .inl g_m_wHow)), (a32, .inl (cI, 30, .inl g_m_told)), (a33, .inl (cI, 30, .inl g_m_untold)), (a0, .inr (10, [.ref a1, .ref a2, .int v_m_2, .int v_m_3, .int v_m_4, .int v_m_5, .int v_m_6, .int v_m_7, .int v_m_8, .int v_m_9, .long w_m_10, .ref a3, .ref a4, .ref a5, .ref a6, .ref a7, .ref a8, .ref a9, .ref a10, .ref a11, .ref a12, .ref a13, .ref a14, .ref a15, .ref a16, .ref a17, .ref a18, .ref a19, .ref a20, .ref a21, .ref a22, .ref a23, .ref a24, .ref a25, .ref a26, .ref a27, .ref a28, .ref a29, .ref a30, .ref a31, .int 0, .int v_m_41, .ref a32, .ref a33, .int v_m_44, .int v_m_45, .int v_m_46, .int v_m_47, .ref a34, .int v_m_49, .ref a35, .ref a36, .ref a37, .int v_m_53, .int v_m_54, .int v_m_55, .int v_m_56, .int v_m_57, .int v_m_58, .int v_m_59, .int v_m_60, .ref a38, .int v_m_62, .ref a39, .ref a40, .ref a41, .ref a42, .int v_m_67, .int v_m_68])), (a12, .inl (cI, 2, .inl (ex2 v_m_stones_0 v_m_stones_1)))] := hD
            refine lv_aload_n hx hb dX10_weighed_76 rfl (lv_at hl 1 rfl) ?_
            refine k_get hC hK hP iX10 7 33 wf_X10_178 rfl (by decide) rfl rfl dX10_weighed_77 ?_
            refine lv_iload hx hb dX10_weighed_80 (lv_at hl 0 rfl) ?_
            refine lv_iload_n hx hb dX10_weighed_82 rfl (lv_at hl 4 rfl) ?_
            refine t_iast hC hK hP hD hS 2 rfl (by omega) (by omega) (TA.all _) ⟨i_lo _, i_hi _⟩ dX10_weighed_83 (fun f20 H locs hT_f20 hP hD hS => ?_)
            have hP : va_P G cl [(a23, .inl (cI, 62, .inl f18)), (a24, .inl (cI, 62, .inl f19)), (a25, .inl (cI, 62, .inl f20)), (a26, .inl (cI, 62, .inl g_m_wTrader)), (a27, .inl (cI, 62, .inl g_m_wHow)), (a32, .inl (cI, 30, .inl g_m_told)), (a33, .inl (cI, 30, .inl g_m_untold)), (a0, .inr (10, [.ref a1, .ref a2, .int v_m_2, .int v_m_3, .int v_m_4, .int v_m_5, .int v_m_6, .int v_m_7, .int v_m_8, .int v_m_9, .long w_m_10, .ref a3, .ref a4, .ref a5, .ref a6, .ref a7, .ref a8, .ref a9, .ref a10, .ref a11, .ref a12, .ref a13, .ref a14, .ref a15, .ref a16, .ref a17, .ref a18, .ref a19, .ref a20, .ref a21, .ref a22, .ref a23, .ref a24, .ref a25, .ref a26, .ref a27, .ref a28, .ref a29, .ref a30, .ref a31, .int 0, .int v_m_41, .ref a32, .ref a33, .int v_m_44, .int v_m_45, .int v_m_46, .int v_m_47, .ref a34, .int v_m_49, .ref a35, .ref a36, .ref a37, .int v_m_53, .int v_m_54, .int v_m_55, .int v_m_56, .int v_m_57, .int v_m_58, .int v_m_59, .int v_m_60, .ref a38, .int v_m_62, .ref a39, .ref a40, .ref a41, .ref a42, .int v_m_67, .int v_m_68])), (a12, .inl (cI, 2, .inl (ex2 v_m_stones_0 v_m_stones_1)))] H := hP
            have hD : va_D A [(a23, .inl (cI, 62, .inl f18)), (a24, .inl (cI, 62, .inl f19)), (a25, .inl (cI, 62, .inl f20)), (a26, .inl (cI, 62, .inl g_m_wTrader)), (a27, .inl (cI, 62, .inl g_m_wHow)), (a32, .inl (cI, 30, .inl g_m_told)), (a33, .inl (cI, 30, .inl g_m_untold)), (a0, .inr (10, [.ref a1, .ref a2, .int v_m_2, .int v_m_3, .int v_m_4, .int v_m_5, .int v_m_6, .int v_m_7, .int v_m_8, .int v_m_9, .long w_m_10, .ref a3, .ref a4, .ref a5, .ref a6, .ref a7, .ref a8, .ref a9, .ref a10, .ref a11, .ref a12, .ref a13, .ref a14, .ref a15, .ref a16, .ref a17, .ref a18, .ref a19, .ref a20, .ref a21, .ref a22, .ref a23, .ref a24, .ref a25, .ref a26, .ref a27, .ref a28, .ref a29, .ref a30, .ref a31, .int 0, .int v_m_41, .ref a32, .ref a33, .int v_m_44, .int v_m_45, .int v_m_46, .int v_m_47, .ref a34, .int v_m_49, .ref a35, .ref a36, .ref a37, .int v_m_53, .int v_m_54, .int v_m_55, .int v_m_56, .int v_m_57, .int v_m_58, .int v_m_59, .int v_m_60, .ref a38, .int v_m_62, .ref a39, .ref a40, .ref a41, .ref a42, .int v_m_67, .int v_m_68])), (a12, .inl (cI, 2, .inl (ex2 v_m_stones_0 v_m_stones_1)))] := hD
            refine lv_aload_n hx hb dX10_weighed_84 rfl (lv_at hl 1 rfl) ?_
            refine k_get hC hK hP iX10 7 34 wf_X10_181 rfl (by decide) rfl rfl dX10_weighed_85 ?_
            refine lv_iload hx hb dX10_weighed_88 (lv_at hl 0 rfl) ?_
            refine lv_iload hx hb dX10_weighed_90 (lv_at hl 5 rfl) ?_
            refine t_iast hC hK hP hD hS 3 rfl (by omega) (by omega) (TA.all _) ⟨i_lo _, i_hi _⟩ dX10_weighed_92 (fun f21 H locs hT_f21 hP hD hS => ?_)
            have hP : va_P G cl [(a23, .inl (cI, 62, .inl f18)), (a24, .inl (cI, 62, .inl f19)), (a25, .inl (cI, 62, .inl f20)), (a26, .inl (cI, 62, .inl f21)), (a27, .inl (cI, 62, .inl g_m_wHow)), (a32, .inl (cI, 30, .inl g_m_told)), (a33, .inl (cI, 30, .inl g_m_untold)), (a0, .inr (10, [.ref a1, .ref a2, .int v_m_2, .int v_m_3, .int v_m_4, .int v_m_5, .int v_m_6, .int v_m_7, .int v_m_8, .int v_m_9, .long w_m_10, .ref a3, .ref a4, .ref a5, .ref a6, .ref a7, .ref a8, .ref a9, .ref a10, .ref a11, .ref a12, .ref a13, .ref a14, .ref a15, .ref a16, .ref a17, .ref a18, .ref a19, .ref a20, .ref a21, .ref a22, .ref a23, .ref a24, .ref a25, .ref a26, .ref a27, .ref a28, .ref a29, .ref a30, .ref a31, .int 0, .int v_m_41, .ref a32, .ref a33, .int v_m_44, .int v_m_45, .int v_m_46, .int v_m_47, .ref a34, .int v_m_49, .ref a35, .ref a36, .ref a37, .int v_m_53, .int v_m_54, .int v_m_55, .int v_m_56, .int v_m_57, .int v_m_58, .int v_m_59, .int v_m_60, .ref a38, .int v_m_62, .ref a39, .ref a40, .ref a41, .ref a42, .int v_m_67, .int v_m_68])), (a12, .inl (cI, 2, .inl (ex2 v_m_stones_0 v_m_stones_1)))] H := hP
            have hD : va_D A [(a23, .inl (cI, 62, .inl f18)), (a24, .inl (cI, 62, .inl f19)), (a25, .inl (cI, 62, .inl f20)), (a26, .inl (cI, 62, .inl f21)), (a27, .inl (cI, 62, .inl g_m_wHow)), (a32, .inl (cI, 30, .inl g_m_told)), (a33, .inl (cI, 30, .inl g_m_untold)), (a0, .inr (10, [.ref a1, .ref a2, .int v_m_2, .int v_m_3, .int v_m_4, .int v_m_5, .int v_m_6, .int v_m_7, .int v_m_8, .int v_m_9, .long w_m_10, .ref a3, .ref a4, .ref a5, .ref a6, .ref a7, .ref a8, .ref a9, .ref a10, .ref a11, .ref a12, .ref a13, .ref a14, .ref a15, .ref a16, .ref a17, .ref a18, .ref a19, .ref a20, .ref a21, .ref a22, .ref a23, .ref a24, .ref a25, .ref a26, .ref a27, .ref a28, .ref a29, .ref a30, .ref a31, .int 0, .int v_m_41, .ref a32, .ref a33, .int v_m_44, .int v_m_45, .int v_m_46, .int v_m_47, .ref a34, .int v_m_49, .ref a35, .ref a36, .ref a37, .int v_m_53, .int v_m_54, .int v_m_55, .int v_m_56, .int v_m_57, .int v_m_58, .int v_m_59, .int v_m_60, .ref a38, .int v_m_62, .ref a39, .ref a40, .ref a41, .ref a42, .int v_m_67, .int v_m_68])), (a12, .inl (cI, 2, .inl (ex2 v_m_stones_0 v_m_stones_1)))] := hD
            refine lv_aload_n hx hb dX10_weighed_93 rfl (lv_at hl 1 rfl) ?_
            refine k_get hC hK hP iX10 7 35 wf_X10_184 rfl (by decide) rfl rfl dX10_weighed_94 ?_
            refine lv_iload hx hb dX10_weighed_97 (lv_at hl 0 rfl) ?_
            refine lv_iload hx hb dX10_weighed_99 (lv_at hl 6 rfl) ?_
            refine t_iast hC hK hP hD hS 4 rfl (by omega) (by omega) (TA.all _) ⟨i_lo _, i_hi _⟩ dX10_weighed_101 (fun f22 H locs hT_f22 hP hD hS => ?_)
            have hP : va_P G cl [(a23, .inl (cI, 62, .inl f18)), (a24, .inl (cI, 62, .inl f19)), (a25, .inl (cI, 62, .inl f20)), (a26, .inl (cI, 62, .inl f21)), (a27, .inl (cI, 62, .inl f22)), (a32, .inl (cI, 30, .inl g_m_told)), (a33, .inl (cI, 30, .inl g_m_untold)), (a0, .inr (10, [.ref a1, .ref a2, .int v_m_2, .int v_m_3, .int v_m_4, .int v_m_5, .int v_m_6, .int v_m_7, .int v_m_8, .int v_m_9, .long w_m_10, .ref a3, .ref a4, .ref a5, .ref a6, .ref a7, .ref a8, .ref a9, .ref a10, .ref a11, .ref a12, .ref a13, .ref a14, .ref a15, .ref a16, .ref a17, .ref a18, .ref a19, .ref a20, .ref a21, .ref a22, .ref a23, .ref a24, .ref a25, .ref a26, .ref a27, .ref a28, .ref a29, .ref a30, .ref a31, .int 0, .int v_m_41, .ref a32, .ref a33, .int v_m_44, .int v_m_45, .int v_m_46, .int v_m_47, .ref a34, .int v_m_49, .ref a35, .ref a36, .ref a37, .int v_m_53, .int v_m_54, .int v_m_55, .int v_m_56, .int v_m_57, .int v_m_58, .int v_m_59, .int v_m_60, .ref a38, .int v_m_62, .ref a39, .ref a40, .ref a41, .ref a42, .int v_m_67, .int v_m_68])), (a12, .inl (cI, 2, .inl (ex2 v_m_stones_0 v_m_stones_1)))] H := hP
            have hD : va_D A [(a23, .inl (cI, 62, .inl f18)), (a24, .inl (cI, 62, .inl f19)), (a25, .inl (cI, 62, .inl f20)), (a26, .inl (cI, 62, .inl f21)), (a27, .inl (cI, 62, .inl f22)), (a32, .inl (cI, 30, .inl g_m_told)), (a33, .inl (cI, 30, .inl g_m_untold)), (a0, .inr (10, [.ref a1, .ref a2, .int v_m_2, .int v_m_3, .int v_m_4, .int v_m_5, .int v_m_6, .int v_m_7, .int v_m_8, .int v_m_9, .long w_m_10, .ref a3, .ref a4, .ref a5, .ref a6, .ref a7, .ref a8, .ref a9, .ref a10, .ref a11, .ref a12, .ref a13, .ref a14, .ref a15, .ref a16, .ref a17, .ref a18, .ref a19, .ref a20, .ref a21, .ref a22, .ref a23, .ref a24, .ref a25, .ref a26, .ref a27, .ref a28, .ref a29, .ref a30, .ref a31, .int 0, .int v_m_41, .ref a32, .ref a33, .int v_m_44, .int v_m_45, .int v_m_46, .int v_m_47, .ref a34, .int v_m_49, .ref a35, .ref a36, .ref a37, .int v_m_53, .int v_m_54, .int v_m_55, .int v_m_56, .int v_m_57, .int v_m_58, .int v_m_59, .int v_m_60, .ref a38, .int v_m_62, .ref a39, .ref a40, .ref a41, .ref a42, .int v_m_67, .int v_m_68])), (a12, .inl (cI, 2, .inl (ex2 v_m_stones_0 v_m_stones_1)))] := hD
            refine lv_aload_n hx hb dX10_weighed_102 rfl (lv_at hl 1 rfl) ?_
            refine k_get hC hK hP iX10 7 42 wf_X10_199 rfl (by decide) rfl rfl dX10_weighed_103 ?_
            refine lv_aload_n hx hb dX10_weighed_106 rfl (lv_at hl 1 rfl) ?_
            refine k_get hC hK hP iX10 7 44 wf_X10_249 rfl (by decide) rfl rfl dX10_weighed_107 ?_
            refine lv_aload_n hx hb dX10_weighed_110 rfl (lv_at hl 1 rfl) ?_
            refine k_get hC hK hP iX10 7 45 wf_X10_318 rfl (by decide) rfl rfl dX10_weighed_111 ?_
            refine t_iast hC hK hP hD hS 5 rfl (by omega) (by omega) (TA.all _) ⟨i_lo _, i_hi _⟩ dX10_weighed_114 (fun f23 H locs hT_f23 hP hD hS => ?_)
            have hP : va_P G cl [(a23, .inl (cI, 62, .inl f18)), (a24, .inl (cI, 62, .inl f19)), (a25, .inl (cI, 62, .inl f20)), (a26, .inl (cI, 62, .inl f21)), (a27, .inl (cI, 62, .inl f22)), (a32, .inl (cI, 30, .inl f23)), (a33, .inl (cI, 30, .inl g_m_untold)), (a0, .inr (10, [.ref a1, .ref a2, .int v_m_2, .int v_m_3, .int v_m_4, .int v_m_5, .int v_m_6, .int v_m_7, .int v_m_8, .int v_m_9, .long w_m_10, .ref a3, .ref a4, .ref a5, .ref a6, .ref a7, .ref a8, .ref a9, .ref a10, .ref a11, .ref a12, .ref a13, .ref a14, .ref a15, .ref a16, .ref a17, .ref a18, .ref a19, .ref a20, .ref a21, .ref a22, .ref a23, .ref a24, .ref a25, .ref a26, .ref a27, .ref a28, .ref a29, .ref a30, .ref a31, .int 0, .int v_m_41, .ref a32, .ref a33, .int v_m_44, .int v_m_45, .int v_m_46, .int v_m_47, .ref a34, .int v_m_49, .ref a35, .ref a36, .ref a37, .int v_m_53, .int v_m_54, .int v_m_55, .int v_m_56, .int v_m_57, .int v_m_58, .int v_m_59, .int v_m_60, .ref a38, .int v_m_62, .ref a39, .ref a40, .ref a41, .ref a42, .int v_m_67, .int v_m_68])), (a12, .inl (cI, 2, .inl (ex2 v_m_stones_0 v_m_stones_1)))] H := hP
            have hD : va_D A [(a23, .inl (cI, 62, .inl f18)), (a24, .inl (cI, 62, .inl f19)), (a25, .inl (cI, 62, .inl f20)), (a26, .inl (cI, 62, .inl f21)), (a27, .inl (cI, 62, .inl f22)), (a32, .inl (cI, 30, .inl f23)), (a33, .inl (cI, 30, .inl g_m_untold)), (a0, .inr (10, [.ref a1, .ref a2, .int v_m_2, .int v_m_3, .int v_m_4, .int v_m_5, .int v_m_6, .int v_m_7, .int v_m_8, .int v_m_9, .long w_m_10, .ref a3, .ref a4, .ref a5, .ref a6, .ref a7, .ref a8, .ref a9, .ref a10, .ref a11, .ref a12, .ref a13, .ref a14, .ref a15, .ref a16, .ref a17, .ref a18, .ref a19, .ref a20, .ref a21, .ref a22, .ref a23, .ref a24, .ref a25, .ref a26, .ref a27, .ref a28, .ref a29, .ref a30, .ref a31, .int 0, .int v_m_41, .ref a32, .ref a33, .int v_m_44, .int v_m_45, .int v_m_46, .int v_m_47, .ref a34, .int v_m_49, .ref a35, .ref a36, .ref a37, .int v_m_53, .int v_m_54, .int v_m_55, .int v_m_56, .int v_m_57, .int v_m_58, .int v_m_59, .int v_m_60, .ref a38, .int v_m_62, .ref a39, .ref a40, .ref a41, .ref a42, .int v_m_67, .int v_m_68])), (a12, .inl (cI, 2, .inl (ex2 v_m_stones_0 v_m_stones_1)))] := hD
            refine lv_aload_n hx hb dX10_weighed_115 rfl (lv_at hl 1 rfl) ?_
            refine k_get hC hK hP iX10 7 43 wf_X10_202 rfl (by decide) rfl rfl dX10_weighed_116 ?_
            refine lv_aload_n hx hb dX10_weighed_119 rfl (lv_at hl 1 rfl) ?_
            refine k_get hC hK hP iX10 7 44 wf_X10_249 rfl (by decide) rfl rfl dX10_weighed_120 ?_
            refine lv_iconst (v := (-1)) hx hb dX10_weighed_123 (by decide) ?_
            refine t_iast hC hK hP hD hS 6 rfl (by omega) (by omega) (TA.all _) ⟨i_lo _, i_hi _⟩ dX10_weighed_124 (fun f24 H locs hT_f24 hP hD hS => ?_)
            have hP : va_P G cl [(a23, .inl (cI, 62, .inl f18)), (a24, .inl (cI, 62, .inl f19)), (a25, .inl (cI, 62, .inl f20)), (a26, .inl (cI, 62, .inl f21)), (a27, .inl (cI, 62, .inl f22)), (a32, .inl (cI, 30, .inl f23)), (a33, .inl (cI, 30, .inl f24)), (a0, .inr (10, [.ref a1, .ref a2, .int v_m_2, .int v_m_3, .int v_m_4, .int v_m_5, .int v_m_6, .int v_m_7, .int v_m_8, .int v_m_9, .long w_m_10, .ref a3, .ref a4, .ref a5, .ref a6, .ref a7, .ref a8, .ref a9, .ref a10, .ref a11, .ref a12, .ref a13, .ref a14, .ref a15, .ref a16, .ref a17, .ref a18, .ref a19, .ref a20, .ref a21, .ref a22, .ref a23, .ref a24, .ref a25, .ref a26, .ref a27, .ref a28, .ref a29, .ref a30, .ref a31, .int 0, .int v_m_41, .ref a32, .ref a33, .int v_m_44, .int v_m_45, .int v_m_46, .int v_m_47, .ref a34, .int v_m_49, .ref a35, .ref a36, .ref a37, .int v_m_53, .int v_m_54, .int v_m_55, .int v_m_56, .int v_m_57, .int v_m_58, .int v_m_59, .int v_m_60, .ref a38, .int v_m_62, .ref a39, .ref a40, .ref a41, .ref a42, .int v_m_67, .int v_m_68])), (a12, .inl (cI, 2, .inl (ex2 v_m_stones_0 v_m_stones_1)))] H := hP
            have hD : va_D A [(a23, .inl (cI, 62, .inl f18)), (a24, .inl (cI, 62, .inl f19)), (a25, .inl (cI, 62, .inl f20)), (a26, .inl (cI, 62, .inl f21)), (a27, .inl (cI, 62, .inl f22)), (a32, .inl (cI, 30, .inl f23)), (a33, .inl (cI, 30, .inl f24)), (a0, .inr (10, [.ref a1, .ref a2, .int v_m_2, .int v_m_3, .int v_m_4, .int v_m_5, .int v_m_6, .int v_m_7, .int v_m_8, .int v_m_9, .long w_m_10, .ref a3, .ref a4, .ref a5, .ref a6, .ref a7, .ref a8, .ref a9, .ref a10, .ref a11, .ref a12, .ref a13, .ref a14, .ref a15, .ref a16, .ref a17, .ref a18, .ref a19, .ref a20, .ref a21, .ref a22, .ref a23, .ref a24, .ref a25, .ref a26, .ref a27, .ref a28, .ref a29, .ref a30, .ref a31, .int 0, .int v_m_41, .ref a32, .ref a33, .int v_m_44, .int v_m_45, .int v_m_46, .int v_m_47, .ref a34, .int v_m_49, .ref a35, .ref a36, .ref a37, .int v_m_53, .int v_m_54, .int v_m_55, .int v_m_56, .int v_m_57, .int v_m_58, .int v_m_59, .int v_m_60, .ref a38, .int v_m_62, .ref a39, .ref a40, .ref a41, .ref a42, .int v_m_67, .int v_m_68])), (a12, .inl (cI, 2, .inl (ex2 v_m_stones_0 v_m_stones_1)))] := hD
            refine lv_aload_n hx hb dX10_weighed_125 rfl (lv_at hl 1 rfl) ?_
            refine lv_dup hx hb dX10_weighed_126 rfl ?_
            refine k_get hC hK hP iX10 7 44 wf_X10_249 rfl (by decide) rfl rfl dX10_weighed_127 ?_
            refine lv_iconst (v := 1) hx hb dX10_weighed_130 (by decide) ?_
            refine lv_iadd hx hb dX10_weighed_131 ?_
            refine t_i (fun q => q.toInt = v_m_44.toInt + 1) (add_i (by show (-2147483648 : Int) ≤ v_m_44.toInt + 1; omega) (by show v_m_44.toInt + 1 ≤ (2147483647 : Int); omega)) (fun z25 tz25 => ?_)
            refine k_put hC hK hP hD hS iX10 tyX10_ok nmX10 7 44 wf_X10_249 rfl (by decide) rfl rfl rfl rfl (Nat.le_of_ble_eq_true rfl) dX10_weighed_132 (fun H locs hP hD hS => ?_)
            have hP : va_P G cl [(a23, .inl (cI, 62, .inl f18)), (a24, .inl (cI, 62, .inl f19)), (a25, .inl (cI, 62, .inl f20)), (a26, .inl (cI, 62, .inl f21)), (a27, .inl (cI, 62, .inl f22)), (a32, .inl (cI, 30, .inl f23)), (a33, .inl (cI, 30, .inl f24)), (a0, .inr (10, [.ref a1, .ref a2, .int v_m_2, .int v_m_3, .int v_m_4, .int v_m_5, .int v_m_6, .int v_m_7, .int v_m_8, .int v_m_9, .long w_m_10, .ref a3, .ref a4, .ref a5, .ref a6, .ref a7, .ref a8, .ref a9, .ref a10, .ref a11, .ref a12, .ref a13, .ref a14, .ref a15, .ref a16, .ref a17, .ref a18, .ref a19, .ref a20, .ref a21, .ref a22, .ref a23, .ref a24, .ref a25, .ref a26, .ref a27, .ref a28, .ref a29, .ref a30, .ref a31, .int 0, .int v_m_41, .ref a32, .ref a33, .int z25, .int v_m_45, .int v_m_46, .int v_m_47, .ref a34, .int v_m_49, .ref a35, .ref a36, .ref a37, .int v_m_53, .int v_m_54, .int v_m_55, .int v_m_56, .int v_m_57, .int v_m_58, .int v_m_59, .int v_m_60, .ref a38, .int v_m_62, .ref a39, .ref a40, .ref a41, .ref a42, .int v_m_67, .int v_m_68])), (a12, .inl (cI, 2, .inl (ex2 v_m_stones_0 v_m_stones_1)))] H := hP
            have hD : va_D A [(a23, .inl (cI, 62, .inl f18)), (a24, .inl (cI, 62, .inl f19)), (a25, .inl (cI, 62, .inl f20)), (a26, .inl (cI, 62, .inl f21)), (a27, .inl (cI, 62, .inl f22)), (a32, .inl (cI, 30, .inl f23)), (a33, .inl (cI, 30, .inl f24)), (a0, .inr (10, [.ref a1, .ref a2, .int v_m_2, .int v_m_3, .int v_m_4, .int v_m_5, .int v_m_6, .int v_m_7, .int v_m_8, .int v_m_9, .long w_m_10, .ref a3, .ref a4, .ref a5, .ref a6, .ref a7, .ref a8, .ref a9, .ref a10, .ref a11, .ref a12, .ref a13, .ref a14, .ref a15, .ref a16, .ref a17, .ref a18, .ref a19, .ref a20, .ref a21, .ref a22, .ref a23, .ref a24, .ref a25, .ref a26, .ref a27, .ref a28, .ref a29, .ref a30, .ref a31, .int 0, .int v_m_41, .ref a32, .ref a33, .int z25, .int v_m_45, .int v_m_46, .int v_m_47, .ref a34, .int v_m_49, .ref a35, .ref a36, .ref a37, .int v_m_53, .int v_m_54, .int v_m_55, .int v_m_56, .int v_m_57, .int v_m_58, .int v_m_59, .int v_m_60, .ref a38, .int v_m_62, .ref a39, .ref a40, .ref a41, .ref a42, .int v_m_67, .int v_m_68])), (a12, .inl (cI, 2, .inl (ex2 v_m_stones_0 v_m_stones_1)))] := hD
            refine lv_aload_n hx hb dX10_weighed_135 rfl (lv_at hl 1 rfl) ?_
            refine lv_iconst (v := 0) hx hb dX10_weighed_136 (by decide) ?_
            refine k_put hC hK hP hD hS iX10 tyX10_ok nmX10 7 47 wf_X10_255 rfl (by decide) rfl rfl rfl rfl (Nat.le_of_ble_eq_true rfl) dX10_weighed_137 (fun H locs hP hD hS => ?_)
            have hP : va_P G cl [(a23, .inl (cI, 62, .inl f18)), (a24, .inl (cI, 62, .inl f19)), (a25, .inl (cI, 62, .inl f20)), (a26, .inl (cI, 62, .inl f21)), (a27, .inl (cI, 62, .inl f22)), (a32, .inl (cI, 30, .inl f23)), (a33, .inl (cI, 30, .inl f24)), (a0, .inr (10, [.ref a1, .ref a2, .int v_m_2, .int v_m_3, .int v_m_4, .int v_m_5, .int v_m_6, .int v_m_7, .int v_m_8, .int v_m_9, .long w_m_10, .ref a3, .ref a4, .ref a5, .ref a6, .ref a7, .ref a8, .ref a9, .ref a10, .ref a11, .ref a12, .ref a13, .ref a14, .ref a15, .ref a16, .ref a17, .ref a18, .ref a19, .ref a20, .ref a21, .ref a22, .ref a23, .ref a24, .ref a25, .ref a26, .ref a27, .ref a28, .ref a29, .ref a30, .ref a31, .int 0, .int v_m_41, .ref a32, .ref a33, .int z25, .int v_m_45, .int v_m_46, .int 0, .ref a34, .int v_m_49, .ref a35, .ref a36, .ref a37, .int v_m_53, .int v_m_54, .int v_m_55, .int v_m_56, .int v_m_57, .int v_m_58, .int v_m_59, .int v_m_60, .ref a38, .int v_m_62, .ref a39, .ref a40, .ref a41, .ref a42, .int v_m_67, .int v_m_68])), (a12, .inl (cI, 2, .inl (ex2 v_m_stones_0 v_m_stones_1)))] H := hP
            have hD : va_D A [(a23, .inl (cI, 62, .inl f18)), (a24, .inl (cI, 62, .inl f19)), (a25, .inl (cI, 62, .inl f20)), (a26, .inl (cI, 62, .inl f21)), (a27, .inl (cI, 62, .inl f22)), (a32, .inl (cI, 30, .inl f23)), (a33, .inl (cI, 30, .inl f24)), (a0, .inr (10, [.ref a1, .ref a2, .int v_m_2, .int v_m_3, .int v_m_4, .int v_m_5, .int v_m_6, .int v_m_7, .int v_m_8, .int v_m_9, .long w_m_10, .ref a3, .ref a4, .ref a5, .ref a6, .ref a7, .ref a8, .ref a9, .ref a10, .ref a11, .ref a12, .ref a13, .ref a14, .ref a15, .ref a16, .ref a17, .ref a18, .ref a19, .ref a20, .ref a21, .ref a22, .ref a23, .ref a24, .ref a25, .ref a26, .ref a27, .ref a28, .ref a29, .ref a30, .ref a31, .int 0, .int v_m_41, .ref a32, .ref a33, .int z25, .int v_m_45, .int v_m_46, .int 0, .ref a34, .int v_m_49, .ref a35, .ref a36, .ref a37, .int v_m_53, .int v_m_54, .int v_m_55, .int v_m_56, .int v_m_57, .int v_m_58, .int v_m_59, .int v_m_60, .ref a38, .int v_m_62, .ref a39, .ref a40, .ref a41, .ref a42, .int v_m_67, .int v_m_68])), (a12, .inl (cI, 2, .inl (ex2 v_m_stones_0 v_m_stones_1)))] := hD
            refine lv_aload_n hx hb dX10_weighed_140 rfl (lv_at hl 1 rfl) ?_
            refine k_get hC hK hP iX10 7 44 wf_X10_249 rfl (by decide) rfl rfl dX10_weighed_141 ?_
            refine lv_iconst (v := 1) hx hb dX10_weighed_144 (by decide) ?_
            refine lv_isub hx hb dX10_weighed_145 ?_
            refine t_i (fun q => q.toInt = z25.toInt - 1) (sub_i (by show (-2147483648 : Int) ≤ z25.toInt - 1; omega) (by show z25.toInt - 1 ≤ (2147483647 : Int); omega)) (fun z26 tz26 => ?_)
            have l_l27 : (0 : Int32).toInt = 0 := rfl
            rw [← hQm]
            exact k_iret hC hr hlk hK hP hD hS (z25, 0, f18, f19, f20, f21, f22, f23, f24) [7, 8, 0, 1, 2, 3, 4, 5, 6] rfl (by decide +kernel) (show (-1) ≤ z26.toInt ∧ z26.toInt ≤ 29 ∧ 0 ≤ z25.toInt ∧ z25.toInt ≤ 30 ∧ 0 ≤ (0 : Int32).toInt ∧ (0 : Int32).toInt ≤ 1 ∧ ((0 : Int32).toInt ≤ v_m_47.toInt) from by omega) (Nat.le_of_ble_eq_true rfl) (Nat.le_of_ble_eq_true rfl) dX10_weighed_146
          · have dc16 : v_m_44.toInt = 30 := (fa_eq _ _).mp c16
            refine lv_iconst (v := (-1)) hx hb dX10_weighed_49 (by decide) ?_
            have l_l28 : ((-1) : Int32).toInt = (-1) := rfl
            rw [← hQm]
            exact k_iret hC hr hlk hK hP hD hS (v_m_44, v_m_47, g_m_wLeft, g_m_wRight, g_m_wYear, g_m_wTrader, g_m_wHow, g_m_told, g_m_untold) [7, 8, 0, 1, 2, 3, 4, 5, 6] rfl (by decide +kernel) (show (-1) ≤ ((-1) : Int32).toInt ∧ ((-1) : Int32).toInt ≤ 29 ∧ 0 ≤ v_m_44.toInt ∧ v_m_44.toInt ≤ 30 ∧ 0 ≤ v_m_47.toInt ∧ v_m_47.toInt ≤ 1 ∧ (v_m_47.toInt ≤ v_m_47.toInt) from by omega) (Nat.le_of_ble_eq_true rfl) (Nat.le_of_ble_eq_true rfl) dX10_weighed_50
set_option maxHeartbeats 4000000 in
set_option maxRecDepth 100000 in
theorem c10_X10_isIn (l : Launch) (G : va_G) (cI cJ cB cZ : ClassId) (b0 : Int32) (b1 : Int32) (b2 : Int32) (hv_0 : 0 ≤ b1.toInt) (hv_1 : b1.toInt ≤ 0) (hv_2 : (-1) ≤ b2.toInt) (hv_3 : b2.toInt ≤ 29) : Con l G (TY cI cJ cB cZ) yX10_isIn cX10_isIn 3 (some .boolean) ({ frames := 0, cells := 0, slots := 0, locals := 0 } : Room) [.int b0, .int b1, .int b2] [] (QI G (TY cI cJ cB cZ) (fun (r : Int32) (u : Unit) => (r = 0 ∧ (True) ∧ (inI 0 b0 b1 b2)) ∨ (r = 1 ∧ (0 ≤ b0.toInt ∧ b0.toInt ≤ 29 ∧ 0 ≤ b2.toInt) ∧ (inI 1 b0 b1 b2))) (fun u : Unit => [])) := by
  refine k_met (by decide) (Nat.le_of_ble_eq_true rfl) ?_
  intro p e s m below meth c A ls hC hr hlk hnm hN hZ hK hA hP hD hS hl
  have hl : lv_has ls 3 [(0, .int b0), (1, .int b1), (2, .int b2)] := hl
  generalize hQm : MQ below _ _ s _ _ A = Qm
  generalize (List.toArray _ : Array Value) = args at hC hQm ⊢
  obtain ⟨hx, hb, hml, hown, hts⟩ := id hC
  obtain ⟨H, hH⟩ : ∃ q, q = s.heap := ⟨_, rfl⟩
  obtain ⟨locs, hlo⟩ : ∃ q : List Loc, q = [] := ⟨_, rfl⟩
  have hP : va_P G cl [] H := by rw [hH]; exact hP
  have hS : va_S A s.heap H locs := by rw [hH, hlo]; exact hS
  rw [← hlo]
  rw [← hH]
  refine lv_iload_n hx hb dX10_isIn_0 rfl (lv_at hl 0 rfl) ?_
  refine lv_iload_n hx hb dX10_isIn_1 rfl (lv_at hl 1 rfl) ?_
  refine lv_icmp_lt (tgt := 14) hx hb dX10_isIn_2 (by decide) (fun c1 => ?_) (fun c1 => ?_)
  · have dc1 : b0.toInt < b1.toInt := (fa_lt _ _).mp c1; have lbc1_0 := i_lo b0; have ubc1_0 := i_hi b0
    refine lv_iconst (v := 0) hx hb dX10_isIn_14 (by decide) ?_
    have l_l2 : (0 : Int32).toInt = 0 := rfl
    rw [← hQm]
    exact k_zret hC hr hlk hK hP hD hS () [] rfl (by decide +kernel) rfl (Or.inl ⟨rfl, trivial, (show inI (0 : Int32) b0 b1 b2 from by unfold inI; omega)⟩) (Nat.le_of_ble_eq_true rfl) (Nat.le_of_ble_eq_true rfl) dX10_isIn_15
  · have dc1 : b1.toInt ≤ b0.toInt := fa_nlt c1; have lbc1_0 := i_lo b0; have ubc1_0 := i_hi b0
    refine lv_iload_n hx hb dX10_isIn_5 rfl (lv_at hl 0 rfl) ?_
    refine lv_iload_n hx hb dX10_isIn_6 rfl (lv_at hl 2 rfl) ?_
    refine lv_icmp_gt (tgt := 14) hx hb dX10_isIn_7 (by decide) (fun c3 => ?_) (fun c3 => ?_)
    · have dc3 : b2.toInt < b0.toInt := (fa_lt _ _).mp c3; have ubc3_1 := i_hi b0
      refine lv_iconst (v := 0) hx hb dX10_isIn_14 (by decide) ?_
      have l_l4 : (0 : Int32).toInt = 0 := rfl
      rw [← hQm]
      exact k_zret hC hr hlk hK hP hD hS () [] rfl (by decide +kernel) rfl (Or.inl ⟨rfl, trivial, (show inI (0 : Int32) b0 b1 b2 from by unfold inI; omega)⟩) (Nat.le_of_ble_eq_true rfl) (Nat.le_of_ble_eq_true rfl) dX10_isIn_15
    · have dc3 : b0.toInt ≤ b2.toInt := fa_nlt c3; have ubc3_1 := i_hi b0
      refine lv_iconst (v := 1) hx hb dX10_isIn_10 (by decide) ?_
      refine lv_goto (tgt := 15) hx hb dX10_isIn_11 (by decide) ?_
      have l_l5 : (1 : Int32).toInt = 1 := rfl
      rw [← hQm]
      exact k_zret hC hr hlk hK hP hD hS () [] rfl (by decide +kernel) rfl (Or.inr ⟨rfl, (show 0 ≤ b0.toInt ∧ b0.toInt ≤ 29 ∧ 0 ≤ b2.toInt from by omega), (show inI (1 : Int32) b0 b1 b2 from by unfold inI; omega)⟩) (Nat.le_of_ble_eq_true rfl) (Nat.le_of_ble_eq_true rfl) dX10_isIn_15
theorem dX10_untell_0 : decode cX10_untell 0 = .ok (.iload_n 1, 1) := by decide +kernel
theorem dX10_untell_1 : decode cX10_untell 1 = .ok (.iconst 0, 1) := by decide +kernel
theorem dX10_untell_2 : decode cX10_untell 2 = .ok (.aload_n 0, 1) := by decide +kernel
theorem dX10_untell_3 : decode cX10_untell 3 = .ok (.getfield 249, 3) := by decide +kernel
theorem dX10_untell_6 : decode cX10_untell 6 = .ok (.iconst 1, 1) := by decide +kernel
theorem dX10_untell_7 : decode cX10_untell 7 = .ok (.isub, 1) := by decide +kernel
theorem dX10_untell_8 : decode cX10_untell 8 = .ok (.invokestatic 307, 3) := by decide +kernel
theorem dX10_untell_11 : decode cX10_untell 11 = .ok (.ifCond .eq 12, 3) := by decide +kernel
theorem dX10_untell_23 : decode cX10_untell 23 = .ok (.iconst 0, 1) := by decide +kernel
theorem dX10_untell_24 : decode cX10_untell 24 = .ok (.ireturn, 1) := by decide +kernel
theorem dX10_untell_14 : decode cX10_untell 14 = .ok (.aload_n 0, 1) := by decide +kernel
theorem dX10_untell_15 : decode cX10_untell 15 = .ok (.getfield 202, 3) := by decide +kernel
theorem dX10_untell_18 : decode cX10_untell 18 = .ok (.iload_n 1, 1) := by decide +kernel
theorem dX10_untell_19 : decode cX10_untell 19 = .ok (.iaload, 1) := by decide +kernel
theorem dX10_untell_20 : decode cX10_untell 20 = .ok (.ifCond .lt 5, 3) := by decide +kernel
theorem dX10_untell_25 : decode cX10_untell 25 = .ok (.aload_n 0, 1) := by decide +kernel
theorem dX10_untell_26 : decode cX10_untell 26 = .ok (.getfield 202, 3) := by decide +kernel
theorem dX10_untell_29 : decode cX10_untell 29 = .ok (.iload_n 1, 1) := by decide +kernel
theorem dX10_untell_30 : decode cX10_untell 30 = .ok (.aload_n 0, 1) := by decide +kernel
theorem dX10_untell_31 : decode cX10_untell 31 = .ok (.getfield 318, 3) := by decide +kernel
theorem dX10_untell_34 : decode cX10_untell 34 = .ok (.iastore, 1) := by decide +kernel
theorem dX10_untell_35 : decode cX10_untell 35 = .ok (.aload_n 0, 1) := by decide +kernel
theorem dX10_untell_36 : decode cX10_untell 36 = .ok (.iconst 0, 1) := by decide +kernel
theorem dX10_untell_37 : decode cX10_untell 37 = .ok (.putfield 255, 3) := by decide +kernel
theorem dX10_untell_40 : decode cX10_untell 40 = .ok (.iconst 1, 1) := by decide +kernel
theorem dX10_untell_41 : decode cX10_untell 41 = .ok (.ireturn, 1) := by decide +kernel
set_option maxHeartbeats 4000000 in
set_option maxRecDepth 100000 in
theorem c11_X10_untell (l : Launch) (G : va_G) (cI cJ cB cZ : ClassId) (a0 a1 a2 a3 a4 a5 a6 a7 a8 a9 a10 a11 a12 a13 a14 a15 a16 a17 a18 a19 a20 a21 a22 a23 a24 a25 a26 a27 a28 a29 a30 a31 a32 a33 a34 a35 a36 a37 a38 a39 a40 a41 a42 : Nat) (b1 : Int32) (v_m_2 : Int32) (v_m_3 : Int32) (v_m_4 : Int32) (v_m_5 : Int32) (v_m_6 : Int32) (v_m_7 : Int32) (v_m_8 : Int32) (v_m_9 : Int32) (w_m_10 : Int64) (v_m_41 : Int32) (v_m_44 : Int32) (v_m_45 : Int32) (v_m_46 : Int32) (v_m_47 : Int32) (v_m_49 : Int32) (v_m_53 : Int32) (v_m_54 : Int32) (v_m_55 : Int32) (v_m_56 : Int32) (v_m_57 : Int32) (v_m_58 : Int32) (v_m_59 : Int32) (v_m_60 : Int32) (v_m_62 : Int32) (v_m_67 : Int32) (v_m_68 : Int32) (g_m_untold : Nat → Int32) (hv_0 : 0 ≤ v_m_2.toInt) (hv_1 : v_m_2.toInt ≤ 1300) (hv_2 : 0 ≤ v_m_3.toInt) (hv_3 : v_m_3.toInt ≤ 1300) (hv_4 : 0 ≤ v_m_4.toInt) (hv_5 : v_m_4.toInt ≤ 5) (hv_6 : 0 ≤ v_m_6.toInt) (hv_7 : v_m_6.toInt ≤ 1300) (hv_8 : 0 ≤ v_m_7.toInt) (hv_9 : v_m_7.toInt ≤ 1301) (hv_10 : 0 ≤ v_m_8.toInt) (hv_11 : v_m_8.toInt ≤ 5) (hv_12 : 0 ≤ v_m_9.toInt) (hv_13 : v_m_9.toInt ≤ 9999) (hv_14 : 0 ≤ v_m_41.toInt) (hv_15 : v_m_41.toInt ≤ 1) (hv_16 : 0 ≤ v_m_44.toInt) (hv_17 : v_m_44.toInt ≤ 30) (hv_18 : 0 ≤ v_m_47.toInt) (hv_19 : v_m_47.toInt ≤ 1) (hv_20 : 0 ≤ v_m_49.toInt) (hv_21 : v_m_49.toInt ≤ 46) (hv_22 : 0 ≤ v_m_53.toInt) (hv_23 : v_m_53.toInt ≤ 300000) (hv_24 : 0 ≤ v_m_55.toInt) (hv_25 : v_m_55.toInt ≤ 300109) (hv_26 : v_m_56.toInt ≤ 300000) (hv_27 : 0 ≤ v_m_57.toInt) (hv_28 : v_m_57.toInt ≤ 1) (hv_29 : 0 ≤ v_m_60.toInt) (hv_30 : v_m_60.toInt ≤ 1) : Con l G (TY cI cJ cB cZ) yX10_untell cX10_untell 2 (some .boolean) ({ frames := 1, cells := 0, slots := 0, locals := 22 } : Room) [.ref a0, .int b1] [(a0, .inr (10, [.ref a1, .ref a2, .int v_m_2, .int v_m_3, .int v_m_4, .int v_m_5, .int v_m_6, .int v_m_7, .int v_m_8, .int v_m_9, .long w_m_10, .ref a3, .ref a4, .ref a5, .ref a6, .ref a7, .ref a8, .ref a9, .ref a10, .ref a11, .ref a12, .ref a13, .ref a14, .ref a15, .ref a16, .ref a17, .ref a18, .ref a19, .ref a20, .ref a21, .ref a22, .ref a23, .ref a24, .ref a25, .ref a26, .ref a27, .ref a28, .ref a29, .ref a30, .ref a31, .int 0, .int v_m_41, .ref a32, .ref a33, .int v_m_44, .int v_m_45, .int v_m_46, .int v_m_47, .ref a34, .int v_m_49, .ref a35, .ref a36, .ref a37, .int v_m_53, .int v_m_54, .int v_m_55, .int v_m_56, .int v_m_57, .int v_m_58, .int v_m_59, .int v_m_60, .ref a38, .int v_m_62, .ref a39, .ref a40, .ref a41, .ref a42, .int v_m_67, .int v_m_68])), (a33, .inl (cI, 30, .inl g_m_untold))] (QI G (TY cI cJ cB cZ) (fun (r : Int32) (u : Int32 × (Nat → Int32)) => (0 ≤ r.toInt ∧ r.toInt ≤ 1 ∧ 0 ≤ u.1.toInt ∧ u.1.toInt ≤ 1 ∧ (u.1.toInt ≤ v_m_47.toInt))) (fun u : Int32 × (Nat → Int32) => [(a0, .inr (10, [.ref a1, .ref a2, .int v_m_2, .int v_m_3, .int v_m_4, .int v_m_5, .int v_m_6, .int v_m_7, .int v_m_8, .int v_m_9, .long w_m_10, .ref a3, .ref a4, .ref a5, .ref a6, .ref a7, .ref a8, .ref a9, .ref a10, .ref a11, .ref a12, .ref a13, .ref a14, .ref a15, .ref a16, .ref a17, .ref a18, .ref a19, .ref a20, .ref a21, .ref a22, .ref a23, .ref a24, .ref a25, .ref a26, .ref a27, .ref a28, .ref a29, .ref a30, .ref a31, .int 0, .int v_m_41, .ref a32, .ref a33, .int v_m_44, .int v_m_45, .int v_m_46, .int u.1, .ref a34, .int v_m_49, .ref a35, .ref a36, .ref a37, .int v_m_53, .int v_m_54, .int v_m_55, .int v_m_56, .int v_m_57, .int v_m_58, .int v_m_59, .int v_m_60, .ref a38, .int v_m_62, .ref a39, .ref a40, .ref a41, .ref a42, .int v_m_67, .int v_m_68])), (a33, .inl (cI, 30, .inl u.2))])) := by
  refine k_met (by decide) (Nat.le_of_ble_eq_true rfl) ?_
  intro p e s m below meth c A ls hC hr hlk hnm hN hZ hK hA hP hD hS hl
  have hl : lv_has ls 2 [(0, .ref a0), (1, .int b1)] := hl
  generalize hQm : MQ below _ _ s _ _ A = Qm
  generalize (List.toArray _ : Array Value) = args at hC hQm ⊢
  obtain ⟨hx, hb, hml, hown, hts⟩ := id hC
  obtain ⟨H, hH⟩ : ∃ q, q = s.heap := ⟨_, rfl⟩
  obtain ⟨locs, hlo⟩ : ∃ q : List Loc, q = [] := ⟨_, rfl⟩
  have hP : va_P G cl [(a0, .inr (10, [.ref a1, .ref a2, .int v_m_2, .int v_m_3, .int v_m_4, .int v_m_5, .int v_m_6, .int v_m_7, .int v_m_8, .int v_m_9, .long w_m_10, .ref a3, .ref a4, .ref a5, .ref a6, .ref a7, .ref a8, .ref a9, .ref a10, .ref a11, .ref a12, .ref a13, .ref a14, .ref a15, .ref a16, .ref a17, .ref a18, .ref a19, .ref a20, .ref a21, .ref a22, .ref a23, .ref a24, .ref a25, .ref a26, .ref a27, .ref a28, .ref a29, .ref a30, .ref a31, .int 0, .int v_m_41, .ref a32, .ref a33, .int v_m_44, .int v_m_45, .int v_m_46, .int v_m_47, .ref a34, .int v_m_49, .ref a35, .ref a36, .ref a37, .int v_m_53, .int v_m_54, .int v_m_55, .int v_m_56, .int v_m_57, .int v_m_58, .int v_m_59, .int v_m_60, .ref a38, .int v_m_62, .ref a39, .ref a40, .ref a41, .ref a42, .int v_m_67, .int v_m_68])), (a33, .inl (cI, 30, .inl g_m_untold))] H := by rw [hH]; exact hP
  have hS : va_S A s.heap H locs := by rw [hH, hlo]; exact hS
  rw [← hlo]
  rw [← hH]
  refine lv_iload_n hx hb dX10_untell_0 rfl (lv_at hl 1 rfl) ?_
  refine lv_iconst (v := 0) hx hb dX10_untell_1 (by decide) ?_
  refine lv_aload_n hx hb dX10_untell_2 rfl (lv_at hl 0 rfl) ?_
  refine k_get hC hK hP iX10 0 44 wf_X10_249 rfl (by decide) rfl rfl dX10_untell_3 ?_
  refine lv_iconst (v := 1) hx hb dX10_untell_6 (by decide) ?_
  refine lv_isub hx hb dX10_untell_7 ?_
  refine t_i (fun q => q.toInt = v_m_44.toInt - 1) (sub_i (by show (-2147483648 : Int) ≤ v_m_44.toInt - 1; omega) (by show v_m_44.toInt - 1 ≤ (2147483647 : Int); omega)) (fun z1 tz1 => ?_)
  have l_l3 : (0 : Int32).toInt = 0 := rfl
  refine k_ci (wr := [(a0, .inr (10, [.ref a1, .ref a2, .int v_m_2, .int v_m_3, .int v_m_4, .int v_m_5, .int v_m_6, .int v_m_7, .int v_m_8, .int v_m_9, .long w_m_10, .ref a3, .ref a4, .ref a5, .ref a6, .ref a7, .ref a8, .ref a9, .ref a10, .ref a11, .ref a12, .ref a13, .ref a14, .ref a15, .ref a16, .ref a17, .ref a18, .ref a19, .ref a20, .ref a21, .ref a22, .ref a23, .ref a24, .ref a25, .ref a26, .ref a27, .ref a28, .ref a29, .ref a30, .ref a31, .int 0, .int v_m_41, .ref a32, .ref a33, .int v_m_44, .int v_m_45, .int v_m_46, .int v_m_47, .ref a34, .int v_m_49, .ref a35, .ref a36, .ref a37, .int v_m_53, .int v_m_54, .int v_m_55, .int v_m_56, .int v_m_57, .int v_m_58, .int v_m_59, .int v_m_60, .ref a38, .int v_m_62, .ref a39, .ref a40, .ref a41, .ref a42, .int v_m_67, .int v_m_68])), (a33, .inl (cI, 30, .inl g_m_untold))]) (k_rS hC hN hZ hS hA hK hP hD (c10_X10_isIn l G cI cJ cB cZ b1 0 z1 (by omega) (by omega) (by omega) (by omega)) [] rfl (by decide +kernel) mi_X10_isIn st_X10_isIn wm_X10_307 hl.1 rfl rfl (Nat.le_of_ble_eq_true rfl) ⟨(Nat.le_of_ble_eq_true rfl), (Nat.le_of_ble_eq_true rfl)⟩ dX10_untell_8 ⟨(Nat.le_of_ble_eq_true rfl), (Nat.le_of_ble_eq_true rfl)⟩) hP hD hS hA [] [0, 1] rfl rfl (by decide +kernel) (by decide +kernel) (fun r2 u2 H locs hp hP hD hS => ?_)
  have hP : va_P G cl [(a0, .inr (10, [.ref a1, .ref a2, .int v_m_2, .int v_m_3, .int v_m_4, .int v_m_5, .int v_m_6, .int v_m_7, .int v_m_8, .int v_m_9, .long w_m_10, .ref a3, .ref a4, .ref a5, .ref a6, .ref a7, .ref a8, .ref a9, .ref a10, .ref a11, .ref a12, .ref a13, .ref a14, .ref a15, .ref a16, .ref a17, .ref a18, .ref a19, .ref a20, .ref a21, .ref a22, .ref a23, .ref a24, .ref a25, .ref a26, .ref a27, .ref a28, .ref a29, .ref a30, .ref a31, .int 0, .int v_m_41, .ref a32, .ref a33, .int v_m_44, .int v_m_45, .int v_m_46, .int v_m_47, .ref a34, .int v_m_49, .ref a35, .ref a36, .ref a37, .int v_m_53, .int v_m_54, .int v_m_55, .int v_m_56, .int v_m_57, .int v_m_58, .int v_m_59, .int v_m_60, .ref a38, .int v_m_62, .ref a39, .ref a40, .ref a41, .ref a42, .int v_m_67, .int v_m_68])), (a33, .inl (cI, 30, .inl g_m_untold))] H := hP
  have hD : va_D A [(a0, .inr (10, [.ref a1, .ref a2, .int v_m_2, .int v_m_3, .int v_m_4, .int v_m_5, .int v_m_6, .int v_m_7, .int v_m_8, .int v_m_9, .long w_m_10, .ref a3, .ref a4, .ref a5, .ref a6, .ref a7, .ref a8, .ref a9, .ref a10, .ref a11, .ref a12, .ref a13, .ref a14, .ref a15, .ref a16, .ref a17, .ref a18, .ref a19, .ref a20, .ref a21, .ref a22, .ref a23, .ref a24, .ref a25, .ref a26, .ref a27, .ref a28, .ref a29, .ref a30, .ref a31, .int 0, .int v_m_41, .ref a32, .ref a33, .int v_m_44, .int v_m_45, .int v_m_46, .int v_m_47, .ref a34, .int v_m_49, .ref a35, .ref a36, .ref a37, .int v_m_53, .int v_m_54, .int v_m_55, .int v_m_56, .int v_m_57, .int v_m_58, .int v_m_59, .int v_m_60, .ref a38, .int v_m_62, .ref a39, .ref a40, .ref a41, .ref a42, .int v_m_67, .int v_m_68])), (a33, .inl (cI, 30, .inl g_m_untold))] := hD
  rcases (show (r2 = 0 ∧ (True) ∧ (inI 0 b1 0 z1)) ∨ (r2 = 1 ∧ (0 ≤ b1.toInt ∧ b1.toInt ≤ 29 ∧ 0 ≤ z1.toInt) ∧ (inI 1 b1 0 z1)) from hp) with ⟨rfl, hq2, hin_8⟩ | ⟨rfl, hq2, hin_8⟩
  · clear hp
    have l_2 : (0 : Int32).toInt = 0 := rfl
    refine lv_if_eq (tgt := 23) hx hb dX10_untell_11 (by decide) (fun _ => ?_) (fun c_ => absurd (by decide +kernel) c_)
    refine lv_iconst (v := 0) hx hb dX10_untell_23 (by decide) ?_
    have l_l4 : (0 : Int32).toInt = 0 := rfl
    rw [← hQm]
    exact k_zret hC hr hlk hK hP hD hS (v_m_47, g_m_untold) [0, 1] rfl (by decide +kernel) rfl (show 0 ≤ (0 : Int32).toInt ∧ (0 : Int32).toInt ≤ 1 ∧ 0 ≤ v_m_47.toInt ∧ v_m_47.toInt ≤ 1 ∧ (v_m_47.toInt ≤ v_m_47.toInt) from by omega) (Nat.le_of_ble_eq_true rfl) (Nat.le_of_ble_eq_true rfl) dX10_untell_24
  · clear hp
    have l_2 : (1 : Int32).toInt = 1 := rfl
    refine lv_if_eq (tgt := 23) hx hb dX10_untell_11 (by decide) (fun c_ => absurd c_ (by decide +kernel)) (fun _ => ?_)
    refine lv_aload_n hx hb dX10_untell_14 rfl (lv_at hl 0 rfl) ?_
    refine k_get hC hK hP iX10 0 43 wf_X10_202 rfl (by decide) rfl rfl dX10_untell_15 ?_
    refine lv_iload_n hx hb dX10_untell_18 rfl (lv_at hl 1 rfl) ?_
    refine t_iald hC hK hP 1 rfl (by omega) (by omega) (TA.all _) dX10_untell_19 (fun z5 tz5 => ?_)
    refine lv_if_lt (tgt := 25) hx hb dX10_untell_20 (by decide) (fun c6 => ?_) (fun c6 => ?_)
    · have dc6 : z5.toInt < 0 := (fa_lt _ _).mp c6; have lbc6_0 := i_lo z5; have ubc6_0 := i_hi z5
      refine lv_aload_n hx hb dX10_untell_25 rfl (lv_at hl 0 rfl) ?_
      refine k_get hC hK hP iX10 0 43 wf_X10_202 rfl (by decide) rfl rfl dX10_untell_26 ?_
      refine lv_iload_n hx hb dX10_untell_29 rfl (lv_at hl 1 rfl) ?_
      refine lv_aload_n hx hb dX10_untell_30 rfl (lv_at hl 0 rfl) ?_
      refine k_get hC hK hP iX10 0 45 wf_X10_318 rfl (by decide) rfl rfl dX10_untell_31 ?_
      refine t_iast hC hK hP hD hS 1 rfl (by omega) (by omega) (TA.all _) ⟨i_lo _, i_hi _⟩ dX10_untell_34 (fun f7 H locs hT_f7 hP hD hS => ?_)
      have hP : va_P G cl [(a0, .inr (10, [.ref a1, .ref a2, .int v_m_2, .int v_m_3, .int v_m_4, .int v_m_5, .int v_m_6, .int v_m_7, .int v_m_8, .int v_m_9, .long w_m_10, .ref a3, .ref a4, .ref a5, .ref a6, .ref a7, .ref a8, .ref a9, .ref a10, .ref a11, .ref a12, .ref a13, .ref a14, .ref a15, .ref a16, .ref a17, .ref a18, .ref a19, .ref a20, .ref a21, .ref a22, .ref a23, .ref a24, .ref a25, .ref a26, .ref a27, .ref a28, .ref a29, .ref a30, .ref a31, .int 0, .int v_m_41, .ref a32, .ref a33, .int v_m_44, .int v_m_45, .int v_m_46, .int v_m_47, .ref a34, .int v_m_49, .ref a35, .ref a36, .ref a37, .int v_m_53, .int v_m_54, .int v_m_55, .int v_m_56, .int v_m_57, .int v_m_58, .int v_m_59, .int v_m_60, .ref a38, .int v_m_62, .ref a39, .ref a40, .ref a41, .ref a42, .int v_m_67, .int v_m_68])), (a33, .inl (cI, 30, .inl f7))] H := hP
      have hD : va_D A [(a0, .inr (10, [.ref a1, .ref a2, .int v_m_2, .int v_m_3, .int v_m_4, .int v_m_5, .int v_m_6, .int v_m_7, .int v_m_8, .int v_m_9, .long w_m_10, .ref a3, .ref a4, .ref a5, .ref a6, .ref a7, .ref a8, .ref a9, .ref a10, .ref a11, .ref a12, .ref a13, .ref a14, .ref a15, .ref a16, .ref a17, .ref a18, .ref a19, .ref a20, .ref a21, .ref a22, .ref a23, .ref a24, .ref a25, .ref a26, .ref a27, .ref a28, .ref a29, .ref a30, .ref a31, .int 0, .int v_m_41, .ref a32, .ref a33, .int v_m_44, .int v_m_45, .int v_m_46, .int v_m_47, .ref a34, .int v_m_49, .ref a35, .ref a36, .ref a37, .int v_m_53, .int v_m_54, .int v_m_55, .int v_m_56, .int v_m_57, .int v_m_58, .int v_m_59, .int v_m_60, .ref a38, .int v_m_62, .ref a39, .ref a40, .ref a41, .ref a42, .int v_m_67, .int v_m_68])), (a33, .inl (cI, 30, .inl f7))] := hD
      refine lv_aload_n hx hb dX10_untell_35 rfl (lv_at hl 0 rfl) ?_
      refine lv_iconst (v := 0) hx hb dX10_untell_36 (by decide) ?_
      refine k_put hC hK hP hD hS iX10 tyX10_ok nmX10 0 47 wf_X10_255 rfl (by decide) rfl rfl rfl rfl (Nat.le_of_ble_eq_true rfl) dX10_untell_37 (fun H locs hP hD hS => ?_)
      have hP : va_P G cl [(a0, .inr (10, [.ref a1, .ref a2, .int v_m_2, .int v_m_3, .int v_m_4, .int v_m_5, .int v_m_6, .int v_m_7, .int v_m_8, .int v_m_9, .long w_m_10, .ref a3, .ref a4, .ref a5, .ref a6, .ref a7, .ref a8, .ref a9, .ref a10, .ref a11, .ref a12, .ref a13, .ref a14, .ref a15, .ref a16, .ref a17, .ref a18, .ref a19, .ref a20, .ref a21, .ref a22, .ref a23, .ref a24, .ref a25, .ref a26, .ref a27, .ref a28, .ref a29, .ref a30, .ref a31, .int 0, .int v_m_41, .ref a32, .ref a33, .int v_m_44, .int v_m_45, .int v_m_46, .int 0, .ref a34, .int v_m_49, .ref a35, .ref a36, .ref a37, .int v_m_53, .int v_m_54, .int v_m_55, .int v_m_56, .int v_m_57, .int v_m_58, .int v_m_59, .int v_m_60, .ref a38, .int v_m_62, .ref a39, .ref a40, .ref a41, .ref a42, .int v_m_67, .int v_m_68])), (a33, .inl (cI, 30, .inl f7))] H := hP
      have hD : va_D A [(a0, .inr (10, [.ref a1, .ref a2, .int v_m_2, .int v_m_3, .int v_m_4, .int v_m_5, .int v_m_6, .int v_m_7, .int v_m_8, .int v_m_9, .long w_m_10, .ref a3, .ref a4, .ref a5, .ref a6, .ref a7, .ref a8, .ref a9, .ref a10, .ref a11, .ref a12, .ref a13, .ref a14, .ref a15, .ref a16, .ref a17, .ref a18, .ref a19, .ref a20, .ref a21, .ref a22, .ref a23, .ref a24, .ref a25, .ref a26, .ref a27, .ref a28, .ref a29, .ref a30, .ref a31, .int 0, .int v_m_41, .ref a32, .ref a33, .int v_m_44, .int v_m_45, .int v_m_46, .int 0, .ref a34, .int v_m_49, .ref a35, .ref a36, .ref a37, .int v_m_53, .int v_m_54, .int v_m_55, .int v_m_56, .int v_m_57, .int v_m_58, .int v_m_59, .int v_m_60, .ref a38, .int v_m_62, .ref a39, .ref a40, .ref a41, .ref a42, .int v_m_67, .int v_m_68])), (a33, .inl (cI, 30, .inl f7))] := hD
      refine lv_iconst (v := 1) hx hb dX10_untell_40 (by decide) ?_
      have l_l8 : (0 : Int32).toInt = 0 := rfl
      have l_l9 : (1 : Int32).toInt = 1 := rfl
      rw [← hQm]
      exact k_zret hC hr hlk hK hP hD hS (0, f7) [0, 1] rfl (by decide +kernel) rfl (show 0 ≤ (1 : Int32).toInt ∧ (1 : Int32).toInt ≤ 1 ∧ 0 ≤ (0 : Int32).toInt ∧ (0 : Int32).toInt ≤ 1 ∧ ((0 : Int32).toInt ≤ v_m_47.toInt) from by omega) (Nat.le_of_ble_eq_true rfl) (Nat.le_of_ble_eq_true rfl) dX10_untell_41
    · have dc6 : 0 ≤ z5.toInt := fa_nlt c6; have lbc6_0 := i_lo z5; have ubc6_0 := i_hi z5
      refine lv_iconst (v := 0) hx hb dX10_untell_23 (by decide) ?_
      have l_l10 : (0 : Int32).toInt = 0 := rfl
      rw [← hQm]
      exact k_zret hC hr hlk hK hP hD hS (v_m_47, g_m_untold) [0, 1] rfl (by decide +kernel) rfl (show 0 ≤ (0 : Int32).toInt ∧ (0 : Int32).toInt ≤ 1 ∧ 0 ≤ v_m_47.toInt ∧ v_m_47.toInt ≤ 1 ∧ (v_m_47.toInt ≤ v_m_47.toInt) from by omega) (Nat.le_of_ble_eq_true rfl) (Nat.le_of_ble_eq_true rfl) dX10_untell_24
set_option maxHeartbeats 4000000 in
set_option maxRecDepth 100000 in
theorem c12_X10_isIn (l : Launch) (G : va_G) (cI cJ cB cZ : ClassId) (b0 : Int32) (b1 : Int32) (b2 : Int32) (hv_0 : 0 ≤ b1.toInt) (hv_1 : b1.toInt ≤ 0) (hv_2 : 1000 ≤ b2.toInt) (hv_3 : b2.toInt ≤ 1000) : Con l G (TY cI cJ cB cZ) yX10_isIn cX10_isIn 3 (some .boolean) ({ frames := 0, cells := 0, slots := 0, locals := 0 } : Room) [.int b0, .int b1, .int b2] [] (QI G (TY cI cJ cB cZ) (fun (r : Int32) (u : Unit) => (r = 0 ∧ (True) ∧ (inI 0 b0 b1 b2)) ∨ (r = 1 ∧ (0 ≤ b0.toInt ∧ b0.toInt ≤ 1000) ∧ (inI 1 b0 b1 b2))) (fun u : Unit => [])) := by
  refine k_met (by decide) (Nat.le_of_ble_eq_true rfl) ?_
  intro p e s m below meth c A ls hC hr hlk hnm hN hZ hK hA hP hD hS hl
  have hl : lv_has ls 3 [(0, .int b0), (1, .int b1), (2, .int b2)] := hl
  generalize hQm : MQ below _ _ s _ _ A = Qm
  generalize (List.toArray _ : Array Value) = args at hC hQm ⊢
  obtain ⟨hx, hb, hml, hown, hts⟩ := id hC
  obtain ⟨H, hH⟩ : ∃ q, q = s.heap := ⟨_, rfl⟩
  obtain ⟨locs, hlo⟩ : ∃ q : List Loc, q = [] := ⟨_, rfl⟩
  have hP : va_P G cl [] H := by rw [hH]; exact hP
  have hS : va_S A s.heap H locs := by rw [hH, hlo]; exact hS
  rw [← hlo]
  rw [← hH]
  refine lv_iload_n hx hb dX10_isIn_0 rfl (lv_at hl 0 rfl) ?_
  refine lv_iload_n hx hb dX10_isIn_1 rfl (lv_at hl 1 rfl) ?_
  refine lv_icmp_lt (tgt := 14) hx hb dX10_isIn_2 (by decide) (fun c1 => ?_) (fun c1 => ?_)
  · have dc1 : b0.toInt < b1.toInt := (fa_lt _ _).mp c1; have lbc1_0 := i_lo b0; have ubc1_0 := i_hi b0
    refine lv_iconst (v := 0) hx hb dX10_isIn_14 (by decide) ?_
    have l_l2 : (0 : Int32).toInt = 0 := rfl
    rw [← hQm]
    exact k_zret hC hr hlk hK hP hD hS () [] rfl (by decide +kernel) rfl (Or.inl ⟨rfl, trivial, (show inI (0 : Int32) b0 b1 b2 from by unfold inI; omega)⟩) (Nat.le_of_ble_eq_true rfl) (Nat.le_of_ble_eq_true rfl) dX10_isIn_15
  · have dc1 : b1.toInt ≤ b0.toInt := fa_nlt c1; have lbc1_0 := i_lo b0; have ubc1_0 := i_hi b0
    refine lv_iload_n hx hb dX10_isIn_5 rfl (lv_at hl 0 rfl) ?_
    refine lv_iload_n hx hb dX10_isIn_6 rfl (lv_at hl 2 rfl) ?_
    refine lv_icmp_gt (tgt := 14) hx hb dX10_isIn_7 (by decide) (fun c3 => ?_) (fun c3 => ?_)
    · have dc3 : b2.toInt < b0.toInt := (fa_lt _ _).mp c3; have ubc3_1 := i_hi b0
      refine lv_iconst (v := 0) hx hb dX10_isIn_14 (by decide) ?_
      have l_l4 : (0 : Int32).toInt = 0 := rfl
      rw [← hQm]
      exact k_zret hC hr hlk hK hP hD hS () [] rfl (by decide +kernel) rfl (Or.inl ⟨rfl, trivial, (show inI (0 : Int32) b0 b1 b2 from by unfold inI; omega)⟩) (Nat.le_of_ble_eq_true rfl) (Nat.le_of_ble_eq_true rfl) dX10_isIn_15
    · have dc3 : b0.toInt ≤ b2.toInt := fa_nlt c3; have ubc3_1 := i_hi b0
      refine lv_iconst (v := 1) hx hb dX10_isIn_10 (by decide) ?_
      refine lv_goto (tgt := 15) hx hb dX10_isIn_11 (by decide) ?_
      have l_l5 : (1 : Int32).toInt = 1 := rfl
      rw [← hQm]
      exact k_zret hC hr hlk hK hP hD hS () [] rfl (by decide +kernel) rfl (Or.inr ⟨rfl, (show 0 ≤ b0.toInt ∧ b0.toInt ≤ 1000 from by omega), (show inI (1 : Int32) b0 b1 b2 from by unfold inI; omega)⟩) (Nat.le_of_ble_eq_true rfl) (Nat.le_of_ble_eq_true rfl) dX10_isIn_15
theorem dX10_later_0 : decode cX10_later 0 = .ok (.iload_n 1, 1) := by decide +kernel
theorem dX10_later_1 : decode cX10_later 1 = .ok (.iconst 0, 1) := by decide +kernel
theorem dX10_later_2 : decode cX10_later 2 = .ok (.sipush 1000, 3) := by decide +kernel
theorem dX10_later_5 : decode cX10_later 5 = .ok (.invokestatic 307, 3) := by decide +kernel
theorem dX10_later_8 : decode cX10_later 8 = .ok (.ifCond .eq 15, 3) := by decide +kernel
theorem dX10_later_23 : decode cX10_later 23 = .ok (.iconst (-1), 1) := by decide +kernel
theorem dX10_later_24 : decode cX10_later 24 = .ok (.ireturn, 1) := by decide +kernel
theorem dX10_later_11 : decode cX10_later 11 = .ok (.aload_n 0, 1) := by decide +kernel
theorem dX10_later_12 : decode cX10_later 12 = .ok (.getfield 318, 3) := by decide +kernel
theorem dX10_later_15 : decode cX10_later 15 = .ok (.iload_n 1, 1) := by decide +kernel
theorem dX10_later_16 : decode cX10_later 16 = .ok (.iadd, 1) := by decide +kernel
theorem dX10_later_17 : decode cX10_later 17 = .ok (.ldc_w 321, 3) := by decide +kernel
set_option maxRecDepth 100000 in
theorem kc_X10_321 : Cond.constant RX10 321 100000 ∈ gw := gm (List.mem_of_getElem? (i := 1606) (by decide +kernel)) rfl
theorem dX10_later_20 : decode cX10_later 20 = .ok (.if_icmp .le 5, 3) := by decide +kernel
theorem dX10_later_25 : decode cX10_later 25 = .ok (.aload_n 0, 1) := by decide +kernel
theorem dX10_later_26 : decode cX10_later 26 = .ok (.dup, 1) := by decide +kernel
theorem dX10_later_27 : decode cX10_later 27 = .ok (.getfield 318, 3) := by decide +kernel
theorem dX10_later_30 : decode cX10_later 30 = .ok (.iload_n 1, 1) := by decide +kernel
theorem dX10_later_31 : decode cX10_later 31 = .ok (.iadd, 1) := by decide +kernel
theorem dX10_later_32 : decode cX10_later 32 = .ok (.putfield 318, 3) := by decide +kernel
theorem dX10_later_35 : decode cX10_later 35 = .ok (.aload_n 0, 1) := by decide +kernel
theorem dX10_later_36 : decode cX10_later 36 = .ok (.getfield 318, 3) := by decide +kernel
theorem dX10_later_39 : decode cX10_later 39 = .ok (.ireturn, 1) := by decide +kernel
set_option maxHeartbeats 4000000 in
set_option maxRecDepth 100000 in
theorem c13_X10_later (l : Launch) (G : va_G) (cI cJ cB cZ : ClassId) (a0 a1 a2 a3 a4 a5 a6 a7 a8 a9 a10 a11 a12 a13 a14 a15 a16 a17 a18 a19 a20 a21 a22 a23 a24 a25 a26 a27 a28 a29 a30 a31 a32 a33 a34 a35 a36 a37 a38 a39 a40 a41 a42 : Nat) (b1 : Int32) (v_m_2 : Int32) (v_m_3 : Int32) (v_m_4 : Int32) (v_m_5 : Int32) (v_m_6 : Int32) (v_m_7 : Int32) (v_m_8 : Int32) (v_m_9 : Int32) (w_m_10 : Int64) (v_m_41 : Int32) (v_m_44 : Int32) (v_m_45 : Int32) (v_m_46 : Int32) (v_m_47 : Int32) (v_m_49 : Int32) (v_m_53 : Int32) (v_m_54 : Int32) (v_m_55 : Int32) (v_m_56 : Int32) (v_m_57 : Int32) (v_m_58 : Int32) (v_m_59 : Int32) (v_m_60 : Int32) (v_m_62 : Int32) (v_m_67 : Int32) (v_m_68 : Int32) (hv_0 : 0 ≤ v_m_2.toInt) (hv_1 : v_m_2.toInt ≤ 1300) (hv_2 : 0 ≤ v_m_3.toInt) (hv_3 : v_m_3.toInt ≤ 1300) (hv_4 : 0 ≤ v_m_4.toInt) (hv_5 : v_m_4.toInt ≤ 5) (hv_6 : 0 ≤ v_m_6.toInt) (hv_7 : v_m_6.toInt ≤ 1300) (hv_8 : 0 ≤ v_m_7.toInt) (hv_9 : v_m_7.toInt ≤ 1301) (hv_10 : 0 ≤ v_m_8.toInt) (hv_11 : v_m_8.toInt ≤ 5) (hv_12 : 0 ≤ v_m_9.toInt) (hv_13 : v_m_9.toInt ≤ 9999) (hv_14 : 0 ≤ v_m_41.toInt) (hv_15 : v_m_41.toInt ≤ 1) (hv_16 : 0 ≤ v_m_44.toInt) (hv_17 : v_m_44.toInt ≤ 30) (hv_18 : 0 ≤ v_m_47.toInt) (hv_19 : v_m_47.toInt ≤ 1) (hv_20 : 0 ≤ v_m_49.toInt) (hv_21 : v_m_49.toInt ≤ 46) (hv_22 : 0 ≤ v_m_53.toInt) (hv_23 : v_m_53.toInt ≤ 300000) (hv_24 : 0 ≤ v_m_55.toInt) (hv_25 : v_m_55.toInt ≤ 300109) (hv_26 : v_m_56.toInt ≤ 300000) (hv_27 : 0 ≤ v_m_57.toInt) (hv_28 : v_m_57.toInt ≤ 1) (hv_29 : 0 ≤ v_m_60.toInt) (hv_30 : v_m_60.toInt ≤ 1) : Con l G (TY cI cJ cB cZ) yX10_later cX10_later 2 (some .int) ({ frames := 1, cells := 0, slots := 0, locals := 22 } : Room) [.ref a0, .int b1] [(a0, .inr (10, [.ref a1, .ref a2, .int v_m_2, .int v_m_3, .int v_m_4, .int v_m_5, .int v_m_6, .int v_m_7, .int v_m_8, .int v_m_9, .long w_m_10, .ref a3, .ref a4, .ref a5, .ref a6, .ref a7, .ref a8, .ref a9, .ref a10, .ref a11, .ref a12, .ref a13, .ref a14, .ref a15, .ref a16, .ref a17, .ref a18, .ref a19, .ref a20, .ref a21, .ref a22, .ref a23, .ref a24, .ref a25, .ref a26, .ref a27, .ref a28, .ref a29, .ref a30, .ref a31, .int 0, .int v_m_41, .ref a32, .ref a33, .int v_m_44, .int v_m_45, .int v_m_46, .int v_m_47, .ref a34, .int v_m_49, .ref a35, .ref a36, .ref a37, .int v_m_53, .int v_m_54, .int v_m_55, .int v_m_56, .int v_m_57, .int v_m_58, .int v_m_59, .int v_m_60, .ref a38, .int v_m_62, .ref a39, .ref a40, .ref a41, .ref a42, .int v_m_67, .int v_m_68]))] (QI G (TY cI cJ cB cZ) (fun (r : Int32) (u : Int32) => (True)) (fun u : Int32 => [(a0, .inr (10, [.ref a1, .ref a2, .int v_m_2, .int v_m_3, .int v_m_4, .int v_m_5, .int v_m_6, .int v_m_7, .int v_m_8, .int v_m_9, .long w_m_10, .ref a3, .ref a4, .ref a5, .ref a6, .ref a7, .ref a8, .ref a9, .ref a10, .ref a11, .ref a12, .ref a13, .ref a14, .ref a15, .ref a16, .ref a17, .ref a18, .ref a19, .ref a20, .ref a21, .ref a22, .ref a23, .ref a24, .ref a25, .ref a26, .ref a27, .ref a28, .ref a29, .ref a30, .ref a31, .int 0, .int v_m_41, .ref a32, .ref a33, .int v_m_44, .int u, .int v_m_46, .int v_m_47, .ref a34, .int v_m_49, .ref a35, .ref a36, .ref a37, .int v_m_53, .int v_m_54, .int v_m_55, .int v_m_56, .int v_m_57, .int v_m_58, .int v_m_59, .int v_m_60, .ref a38, .int v_m_62, .ref a39, .ref a40, .ref a41, .ref a42, .int v_m_67, .int v_m_68]))])) := by
  refine k_met (by decide) (Nat.le_of_ble_eq_true rfl) ?_
  intro p e s m below meth c A ls hC hr hlk hnm hN hZ hK hA hP hD hS hl
  have hl : lv_has ls 2 [(0, .ref a0), (1, .int b1)] := hl
  generalize hQm : MQ below _ _ s _ _ A = Qm
  generalize (List.toArray _ : Array Value) = args at hC hQm ⊢
  obtain ⟨hx, hb, hml, hown, hts⟩ := id hC
  obtain ⟨H, hH⟩ : ∃ q, q = s.heap := ⟨_, rfl⟩
  obtain ⟨locs, hlo⟩ : ∃ q : List Loc, q = [] := ⟨_, rfl⟩
  have hP : va_P G cl [(a0, .inr (10, [.ref a1, .ref a2, .int v_m_2, .int v_m_3, .int v_m_4, .int v_m_5, .int v_m_6, .int v_m_7, .int v_m_8, .int v_m_9, .long w_m_10, .ref a3, .ref a4, .ref a5, .ref a6, .ref a7, .ref a8, .ref a9, .ref a10, .ref a11, .ref a12, .ref a13, .ref a14, .ref a15, .ref a16, .ref a17, .ref a18, .ref a19, .ref a20, .ref a21, .ref a22, .ref a23, .ref a24, .ref a25, .ref a26, .ref a27, .ref a28, .ref a29, .ref a30, .ref a31, .int 0, .int v_m_41, .ref a32, .ref a33, .int v_m_44, .int v_m_45, .int v_m_46, .int v_m_47, .ref a34, .int v_m_49, .ref a35, .ref a36, .ref a37, .int v_m_53, .int v_m_54, .int v_m_55, .int v_m_56, .int v_m_57, .int v_m_58, .int v_m_59, .int v_m_60, .ref a38, .int v_m_62, .ref a39, .ref a40, .ref a41, .ref a42, .int v_m_67, .int v_m_68]))] H := by rw [hH]; exact hP
  have hS : va_S A s.heap H locs := by rw [hH, hlo]; exact hS
  rw [← hlo]
  rw [← hH]
  refine lv_iload_n hx hb dX10_later_0 rfl (lv_at hl 1 rfl) ?_
  refine lv_iconst (v := 0) hx hb dX10_later_1 (by decide) ?_
  refine lv_sipush (v := 1000) hx hb dX10_later_2 (by decide) ?_
  have l_l2 : (0 : Int32).toInt = 0 := rfl
  have l_l3 : (1000 : Int32).toInt = 1000 := rfl
  refine k_ci (wr := [(a0, .inr (10, [.ref a1, .ref a2, .int v_m_2, .int v_m_3, .int v_m_4, .int v_m_5, .int v_m_6, .int v_m_7, .int v_m_8, .int v_m_9, .long w_m_10, .ref a3, .ref a4, .ref a5, .ref a6, .ref a7, .ref a8, .ref a9, .ref a10, .ref a11, .ref a12, .ref a13, .ref a14, .ref a15, .ref a16, .ref a17, .ref a18, .ref a19, .ref a20, .ref a21, .ref a22, .ref a23, .ref a24, .ref a25, .ref a26, .ref a27, .ref a28, .ref a29, .ref a30, .ref a31, .int 0, .int v_m_41, .ref a32, .ref a33, .int v_m_44, .int v_m_45, .int v_m_46, .int v_m_47, .ref a34, .int v_m_49, .ref a35, .ref a36, .ref a37, .int v_m_53, .int v_m_54, .int v_m_55, .int v_m_56, .int v_m_57, .int v_m_58, .int v_m_59, .int v_m_60, .ref a38, .int v_m_62, .ref a39, .ref a40, .ref a41, .ref a42, .int v_m_67, .int v_m_68]))]) (k_rS hC hN hZ hS hA hK hP hD (c12_X10_isIn l G cI cJ cB cZ b1 0 1000 (by omega) (by omega) (by omega) (by omega)) [] rfl (by decide +kernel) mi_X10_isIn st_X10_isIn wm_X10_307 hl.1 rfl rfl (Nat.le_of_ble_eq_true rfl) ⟨(Nat.le_of_ble_eq_true rfl), (Nat.le_of_ble_eq_true rfl)⟩ dX10_later_5 ⟨(Nat.le_of_ble_eq_true rfl), (Nat.le_of_ble_eq_true rfl)⟩) hP hD hS hA [] [0] rfl rfl (by decide +kernel) (by decide +kernel) (fun r1 u1 H locs hp hP hD hS => ?_)
  have hP : va_P G cl [(a0, .inr (10, [.ref a1, .ref a2, .int v_m_2, .int v_m_3, .int v_m_4, .int v_m_5, .int v_m_6, .int v_m_7, .int v_m_8, .int v_m_9, .long w_m_10, .ref a3, .ref a4, .ref a5, .ref a6, .ref a7, .ref a8, .ref a9, .ref a10, .ref a11, .ref a12, .ref a13, .ref a14, .ref a15, .ref a16, .ref a17, .ref a18, .ref a19, .ref a20, .ref a21, .ref a22, .ref a23, .ref a24, .ref a25, .ref a26, .ref a27, .ref a28, .ref a29, .ref a30, .ref a31, .int 0, .int v_m_41, .ref a32, .ref a33, .int v_m_44, .int v_m_45, .int v_m_46, .int v_m_47, .ref a34, .int v_m_49, .ref a35, .ref a36, .ref a37, .int v_m_53, .int v_m_54, .int v_m_55, .int v_m_56, .int v_m_57, .int v_m_58, .int v_m_59, .int v_m_60, .ref a38, .int v_m_62, .ref a39, .ref a40, .ref a41, .ref a42, .int v_m_67, .int v_m_68]))] H := hP
  have hD : va_D A [(a0, .inr (10, [.ref a1, .ref a2, .int v_m_2, .int v_m_3, .int v_m_4, .int v_m_5, .int v_m_6, .int v_m_7, .int v_m_8, .int v_m_9, .long w_m_10, .ref a3, .ref a4, .ref a5, .ref a6, .ref a7, .ref a8, .ref a9, .ref a10, .ref a11, .ref a12, .ref a13, .ref a14, .ref a15, .ref a16, .ref a17, .ref a18, .ref a19, .ref a20, .ref a21, .ref a22, .ref a23, .ref a24, .ref a25, .ref a26, .ref a27, .ref a28, .ref a29, .ref a30, .ref a31, .int 0, .int v_m_41, .ref a32, .ref a33, .int v_m_44, .int v_m_45, .int v_m_46, .int v_m_47, .ref a34, .int v_m_49, .ref a35, .ref a36, .ref a37, .int v_m_53, .int v_m_54, .int v_m_55, .int v_m_56, .int v_m_57, .int v_m_58, .int v_m_59, .int v_m_60, .ref a38, .int v_m_62, .ref a39, .ref a40, .ref a41, .ref a42, .int v_m_67, .int v_m_68]))] := hD
  rcases (show (r1 = 0 ∧ (True) ∧ (inI 0 b1 0 1000)) ∨ (r1 = 1 ∧ (0 ≤ b1.toInt ∧ b1.toInt ≤ 1000) ∧ (inI 1 b1 0 1000)) from hp) with ⟨rfl, hq1, hin_5⟩ | ⟨rfl, hq1, hin_5⟩
  · clear hp
    have l_1 : (0 : Int32).toInt = 0 := rfl
    refine lv_if_eq (tgt := 23) hx hb dX10_later_8 (by decide) (fun _ => ?_) (fun c_ => absurd (by decide +kernel) c_)
    refine lv_iconst (v := (-1)) hx hb dX10_later_23 (by decide) ?_
    have l_l4 : ((-1) : Int32).toInt = (-1) := rfl
    rw [← hQm]
    exact k_iret hC hr hlk hK hP hD hS v_m_45 [0] rfl (by decide +kernel) trivial (Nat.le_of_ble_eq_true rfl) (Nat.le_of_ble_eq_true rfl) dX10_later_24
  · clear hp
    have l_1 : (1 : Int32).toInt = 1 := rfl
    refine lv_if_eq (tgt := 23) hx hb dX10_later_8 (by decide) (fun c_ => absurd c_ (by decide +kernel)) (fun _ => ?_)
    refine lv_aload_n hx hb dX10_later_11 rfl (lv_at hl 0 rfl) ?_
    refine k_get hC hK hP iX10 0 45 wf_X10_318 rfl (by decide) rfl rfl dX10_later_12 ?_
    refine lv_iload_n hx hb dX10_later_15 rfl (lv_at hl 1 rfl) ?_
    refine lv_iadd hx hb dX10_later_16 ?_
    refine lv_topi (fun z5 _ => ?_)
    refine lv_ldcw (v := 100000) hx hb hown (hts _ kc_X10_321) dX10_later_17 ?_
    refine lv_icmp_le (tgt := 25) hx hb dX10_later_20 (by decide) (fun c6 => ?_) (fun c6 => ?_)
    · have dc6 : z5.toInt ≤ 100000 := (fa_le _ _).mp c6; have lbc6_0 := i_lo z5; have ubc6_0 := i_hi z5
      refine lv_aload_n hx hb dX10_later_25 rfl (lv_at hl 0 rfl) ?_
      refine lv_dup hx hb dX10_later_26 rfl ?_
      refine k_get hC hK hP iX10 0 45 wf_X10_318 rfl (by decide) rfl rfl dX10_later_27 ?_
      refine lv_iload_n hx hb dX10_later_30 rfl (lv_at hl 1 rfl) ?_
      refine lv_iadd hx hb dX10_later_31 ?_
      refine lv_topi (fun z7 _ => ?_)
      refine k_put hC hK hP hD hS iX10 tyX10_ok nmX10 0 45 wf_X10_318 rfl (by decide) rfl rfl rfl rfl (Nat.le_of_ble_eq_true rfl) dX10_later_32 (fun H locs hP hD hS => ?_)
      have hP : va_P G cl [(a0, .inr (10, [.ref a1, .ref a2, .int v_m_2, .int v_m_3, .int v_m_4, .int v_m_5, .int v_m_6, .int v_m_7, .int v_m_8, .int v_m_9, .long w_m_10, .ref a3, .ref a4, .ref a5, .ref a6, .ref a7, .ref a8, .ref a9, .ref a10, .ref a11, .ref a12, .ref a13, .ref a14, .ref a15, .ref a16, .ref a17, .ref a18, .ref a19, .ref a20, .ref a21, .ref a22, .ref a23, .ref a24, .ref a25, .ref a26, .ref a27, .ref a28, .ref a29, .ref a30, .ref a31, .int 0, .int v_m_41, .ref a32, .ref a33, .int v_m_44, .int z7, .int v_m_46, .int v_m_47, .ref a34, .int v_m_49, .ref a35, .ref a36, .ref a37, .int v_m_53, .int v_m_54, .int v_m_55, .int v_m_56, .int v_m_57, .int v_m_58, .int v_m_59, .int v_m_60, .ref a38, .int v_m_62, .ref a39, .ref a40, .ref a41, .ref a42, .int v_m_67, .int v_m_68]))] H := hP
      have hD : va_D A [(a0, .inr (10, [.ref a1, .ref a2, .int v_m_2, .int v_m_3, .int v_m_4, .int v_m_5, .int v_m_6, .int v_m_7, .int v_m_8, .int v_m_9, .long w_m_10, .ref a3, .ref a4, .ref a5, .ref a6, .ref a7, .ref a8, .ref a9, .ref a10, .ref a11, .ref a12, .ref a13, .ref a14, .ref a15, .ref a16, .ref a17, .ref a18, .ref a19, .ref a20, .ref a21, .ref a22, .ref a23, .ref a24, .ref a25, .ref a26, .ref a27, .ref a28, .ref a29, .ref a30, .ref a31, .int 0, .int v_m_41, .ref a32, .ref a33, .int v_m_44, .int z7, .int v_m_46, .int v_m_47, .ref a34, .int v_m_49, .ref a35, .ref a36, .ref a37, .int v_m_53, .int v_m_54, .int v_m_55, .int v_m_56, .int v_m_57, .int v_m_58, .int v_m_59, .int v_m_60, .ref a38, .int v_m_62, .ref a39, .ref a40, .ref a41, .ref a42, .int v_m_67, .int v_m_68]))] := hD
      refine lv_aload_n hx hb dX10_later_35 rfl (lv_at hl 0 rfl) ?_
      refine k_get hC hK hP iX10 0 45 wf_X10_318 rfl (by decide) rfl rfl dX10_later_36 ?_
      rw [← hQm]
      exact k_iret hC hr hlk hK hP hD hS z7 [0] rfl (by decide +kernel) trivial (Nat.le_of_ble_eq_true rfl) (Nat.le_of_ble_eq_true rfl) dX10_later_39
    · have dc6 : 100000 < z5.toInt := fa_nle c6; have lbc6_0 := i_lo z5; have ubc6_0 := i_hi z5
      refine lv_iconst (v := (-1)) hx hb dX10_later_23 (by decide) ?_
      have l_l8 : ((-1) : Int32).toInt = (-1) := rfl
      rw [← hQm]
      exact k_iret hC hr hlk hK hP hD hS v_m_45 [0] rfl (by decide +kernel) trivial (Nat.le_of_ble_eq_true rfl) (Nat.le_of_ble_eq_true rfl) dX10_later_24
theorem dX10_doubt_0 : decode cX10_doubt 0 = .ok (.iload_n 1, 1) := by decide +kernel
theorem dX10_doubt_1 : decode cX10_doubt 1 = .ok (.iconst 0, 1) := by decide +kernel
theorem dX10_doubt_2 : decode cX10_doubt 2 = .ok (.bipush 9, 2) := by decide +kernel
theorem dX10_doubt_4 : decode cX10_doubt 4 = .ok (.invokestatic 307, 3) := by decide +kernel
theorem dX10_doubt_7 : decode cX10_doubt 7 = .ok (.ifCond .eq 24, 3) := by decide +kernel
theorem dX10_doubt_31 : decode cX10_doubt 31 = .ok (.iconst 0, 1) := by decide +kernel
theorem dX10_doubt_32 : decode cX10_doubt 32 = .ok (.ireturn, 1) := by decide +kernel
theorem dX10_doubt_10 : decode cX10_doubt 10 = .ok (.aload_n 0, 1) := by decide +kernel
theorem dX10_doubt_11 : decode cX10_doubt 11 = .ok (.getfield 252, 3) := by decide +kernel
set_option maxRecDepth 100000 in
theorem wf_X10_252 : Cond.fieldLink RX10 252 "StoneTrustModel" "doubted" "I" ∈ gw := gm (List.mem_of_getElem? (i := 1301) (by decide +kernel)) rfl
theorem dX10_doubt_14 : decode cX10_doubt 14 = .ok (.iload_n 1, 1) := by decide +kernel
theorem dX10_doubt_15 : decode cX10_doubt 15 = .ok (.ishr, 1) := by decide +kernel
theorem dX10_doubt_16 : decode cX10_doubt 16 = .ok (.iconst 1, 1) := by decide +kernel
theorem dX10_doubt_17 : decode cX10_doubt 17 = .ok (.iand, 1) := by decide +kernel
theorem dX10_doubt_18 : decode cX10_doubt 18 = .ok (.iconst 1, 1) := by decide +kernel
theorem dX10_doubt_19 : decode cX10_doubt 19 = .ok (.if_icmp .ne 7, 3) := by decide +kernel
theorem dX10_doubt_26 : decode cX10_doubt 26 = .ok (.iconst 0, 1) := by decide +kernel
theorem dX10_doubt_27 : decode cX10_doubt 27 = .ok (.iload_n 2, 1) := by decide +kernel
theorem dX10_doubt_28 : decode cX10_doubt 28 = .ok (.if_icmp .ne 5, 3) := by decide +kernel
theorem dX10_doubt_33 : decode cX10_doubt 33 = .ok (.aload_n 0, 1) := by decide +kernel
theorem dX10_doubt_34 : decode cX10_doubt 34 = .ok (.dup, 1) := by decide +kernel
theorem dX10_doubt_35 : decode cX10_doubt 35 = .ok (.getfield 252, 3) := by decide +kernel
theorem dX10_doubt_38 : decode cX10_doubt 38 = .ok (.iconst 1, 1) := by decide +kernel
theorem dX10_doubt_39 : decode cX10_doubt 39 = .ok (.iload_n 1, 1) := by decide +kernel
theorem dX10_doubt_40 : decode cX10_doubt 40 = .ok (.ishl, 1) := by decide +kernel
theorem dX10_doubt_41 : decode cX10_doubt 41 = .ok (.ixor, 1) := by decide +kernel
theorem dX10_doubt_42 : decode cX10_doubt 42 = .ok (.putfield 252, 3) := by decide +kernel
theorem dX10_doubt_45 : decode cX10_doubt 45 = .ok (.aload_n 0, 1) := by decide +kernel
theorem dX10_doubt_46 : decode cX10_doubt 46 = .ok (.iconst 0, 1) := by decide +kernel
theorem dX10_doubt_47 : decode cX10_doubt 47 = .ok (.putfield 255, 3) := by decide +kernel
theorem dX10_doubt_50 : decode cX10_doubt 50 = .ok (.iconst 1, 1) := by decide +kernel
theorem dX10_doubt_51 : decode cX10_doubt 51 = .ok (.ireturn, 1) := by decide +kernel
theorem dX10_doubt_22 : decode cX10_doubt 22 = .ok (.iconst 1, 1) := by decide +kernel
theorem dX10_doubt_23 : decode cX10_doubt 23 = .ok (.goto 4, 3) := by decide +kernel
set_option maxHeartbeats 4000000 in
set_option maxRecDepth 100000 in
theorem c14_X10_doubt (l : Launch) (G : va_G) (cI cJ cB cZ : ClassId) (a0 a1 a2 a3 a4 a5 a6 a7 a8 a9 a10 a11 a12 a13 a14 a15 a16 a17 a18 a19 a20 a21 a22 a23 a24 a25 a26 a27 a28 a29 a30 a31 a32 a33 a34 a35 a36 a37 a38 a39 a40 a41 a42 : Nat) (b1 : Int32) (b2 : Int32) (v_m_2 : Int32) (v_m_3 : Int32) (v_m_4 : Int32) (v_m_5 : Int32) (v_m_6 : Int32) (v_m_7 : Int32) (v_m_8 : Int32) (v_m_9 : Int32) (w_m_10 : Int64) (v_m_41 : Int32) (v_m_44 : Int32) (v_m_45 : Int32) (v_m_46 : Int32) (v_m_47 : Int32) (v_m_49 : Int32) (v_m_53 : Int32) (v_m_54 : Int32) (v_m_55 : Int32) (v_m_56 : Int32) (v_m_57 : Int32) (v_m_58 : Int32) (v_m_59 : Int32) (v_m_60 : Int32) (v_m_62 : Int32) (v_m_67 : Int32) (v_m_68 : Int32) (hv_0 : 0 ≤ b2.toInt) (hv_1 : b2.toInt ≤ 1) (hv_2 : 0 ≤ v_m_2.toInt) (hv_3 : v_m_2.toInt ≤ 1300) (hv_4 : 0 ≤ v_m_3.toInt) (hv_5 : v_m_3.toInt ≤ 1300) (hv_6 : 0 ≤ v_m_4.toInt) (hv_7 : v_m_4.toInt ≤ 5) (hv_8 : 0 ≤ v_m_6.toInt) (hv_9 : v_m_6.toInt ≤ 1300) (hv_10 : 0 ≤ v_m_7.toInt) (hv_11 : v_m_7.toInt ≤ 1301) (hv_12 : 0 ≤ v_m_8.toInt) (hv_13 : v_m_8.toInt ≤ 5) (hv_14 : 0 ≤ v_m_9.toInt) (hv_15 : v_m_9.toInt ≤ 9999) (hv_16 : 0 ≤ v_m_41.toInt) (hv_17 : v_m_41.toInt ≤ 1) (hv_18 : 0 ≤ v_m_44.toInt) (hv_19 : v_m_44.toInt ≤ 30) (hv_20 : 0 ≤ v_m_47.toInt) (hv_21 : v_m_47.toInt ≤ 1) (hv_22 : 0 ≤ v_m_49.toInt) (hv_23 : v_m_49.toInt ≤ 46) (hv_24 : 0 ≤ v_m_53.toInt) (hv_25 : v_m_53.toInt ≤ 300000) (hv_26 : 0 ≤ v_m_55.toInt) (hv_27 : v_m_55.toInt ≤ 300109) (hv_28 : v_m_56.toInt ≤ 300000) (hv_29 : 0 ≤ v_m_57.toInt) (hv_30 : v_m_57.toInt ≤ 1) (hv_31 : 0 ≤ v_m_60.toInt) (hv_32 : v_m_60.toInt ≤ 1) : Con l G (TY cI cJ cB cZ) yX10_doubt cX10_doubt 3 (some .boolean) ({ frames := 1, cells := 0, slots := 0, locals := 22 } : Room) [.ref a0, .int b1, .int b2] [(a0, .inr (10, [.ref a1, .ref a2, .int v_m_2, .int v_m_3, .int v_m_4, .int v_m_5, .int v_m_6, .int v_m_7, .int v_m_8, .int v_m_9, .long w_m_10, .ref a3, .ref a4, .ref a5, .ref a6, .ref a7, .ref a8, .ref a9, .ref a10, .ref a11, .ref a12, .ref a13, .ref a14, .ref a15, .ref a16, .ref a17, .ref a18, .ref a19, .ref a20, .ref a21, .ref a22, .ref a23, .ref a24, .ref a25, .ref a26, .ref a27, .ref a28, .ref a29, .ref a30, .ref a31, .int 0, .int v_m_41, .ref a32, .ref a33, .int v_m_44, .int v_m_45, .int v_m_46, .int v_m_47, .ref a34, .int v_m_49, .ref a35, .ref a36, .ref a37, .int v_m_53, .int v_m_54, .int v_m_55, .int v_m_56, .int v_m_57, .int v_m_58, .int v_m_59, .int v_m_60, .ref a38, .int v_m_62, .ref a39, .ref a40, .ref a41, .ref a42, .int v_m_67, .int v_m_68]))] (QI G (TY cI cJ cB cZ) (fun (r : Int32) (u : Int32 × Int32) => (0 ≤ r.toInt ∧ r.toInt ≤ 1 ∧ 0 ≤ u.2.toInt ∧ u.2.toInt ≤ 1 ∧ (u.2.toInt ≤ v_m_47.toInt))) (fun u : Int32 × Int32 => [(a0, .inr (10, [.ref a1, .ref a2, .int v_m_2, .int v_m_3, .int v_m_4, .int v_m_5, .int v_m_6, .int v_m_7, .int v_m_8, .int v_m_9, .long w_m_10, .ref a3, .ref a4, .ref a5, .ref a6, .ref a7, .ref a8, .ref a9, .ref a10, .ref a11, .ref a12, .ref a13, .ref a14, .ref a15, .ref a16, .ref a17, .ref a18, .ref a19, .ref a20, .ref a21, .ref a22, .ref a23, .ref a24, .ref a25, .ref a26, .ref a27, .ref a28, .ref a29, .ref a30, .ref a31, .int 0, .int v_m_41, .ref a32, .ref a33, .int v_m_44, .int v_m_45, .int u.1, .int u.2, .ref a34, .int v_m_49, .ref a35, .ref a36, .ref a37, .int v_m_53, .int v_m_54, .int v_m_55, .int v_m_56, .int v_m_57, .int v_m_58, .int v_m_59, .int v_m_60, .ref a38, .int v_m_62, .ref a39, .ref a40, .ref a41, .ref a42, .int v_m_67, .int v_m_68]))])) := by
  refine k_met (by decide) (Nat.le_of_ble_eq_true rfl) ?_
  intro p e s m below meth c A ls hC hr hlk hnm hN hZ hK hA hP hD hS hl
  have hl : lv_has ls 3 [(0, .ref a0), (1, .int b1), (2, .int b2)] := hl
  generalize hQm : MQ below _ _ s _ _ A = Qm
  generalize (List.toArray _ : Array Value) = args at hC hQm ⊢
  obtain ⟨hx, hb, hml, hown, hts⟩ := id hC
  obtain ⟨H, hH⟩ : ∃ q, q = s.heap := ⟨_, rfl⟩
  obtain ⟨locs, hlo⟩ : ∃ q : List Loc, q = [] := ⟨_, rfl⟩
  have hP : va_P G cl [(a0, .inr (10, [.ref a1, .ref a2, .int v_m_2, .int v_m_3, .int v_m_4, .int v_m_5, .int v_m_6, .int v_m_7, .int v_m_8, .int v_m_9, .long w_m_10, .ref a3, .ref a4, .ref a5, .ref a6, .ref a7, .ref a8, .ref a9, .ref a10, .ref a11, .ref a12, .ref a13, .ref a14, .ref a15, .ref a16, .ref a17, .ref a18, .ref a19, .ref a20, .ref a21, .ref a22, .ref a23, .ref a24, .ref a25, .ref a26, .ref a27, .ref a28, .ref a29, .ref a30, .ref a31, .int 0, .int v_m_41, .ref a32, .ref a33, .int v_m_44, .int v_m_45, .int v_m_46, .int v_m_47, .ref a34, .int v_m_49, .ref a35, .ref a36, .ref a37, .int v_m_53, .int v_m_54, .int v_m_55, .int v_m_56, .int v_m_57, .int v_m_58, .int v_m_59, .int v_m_60, .ref a38, .int v_m_62, .ref a39, .ref a40, .ref a41, .ref a42, .int v_m_67, .int v_m_68]))] H := by rw [hH]; exact hP
  have hS : va_S A s.heap H locs := by rw [hH, hlo]; exact hS
  rw [← hlo]
  rw [← hH]
  refine lv_iload_n hx hb dX10_doubt_0 rfl (lv_at hl 1 rfl) ?_
  refine lv_iconst (v := 0) hx hb dX10_doubt_1 (by decide) ?_
  refine lv_bipush (v := 9) hx hb dX10_doubt_2 (by decide) ?_
  have l_l2 : (0 : Int32).toInt = 0 := rfl
  have l_l3 : (9 : Int32).toInt = 9 := rfl
  refine k_ci (wr := [(a0, .inr (10, [.ref a1, .ref a2, .int v_m_2, .int v_m_3, .int v_m_4, .int v_m_5, .int v_m_6, .int v_m_7, .int v_m_8, .int v_m_9, .long w_m_10, .ref a3, .ref a4, .ref a5, .ref a6, .ref a7, .ref a8, .ref a9, .ref a10, .ref a11, .ref a12, .ref a13, .ref a14, .ref a15, .ref a16, .ref a17, .ref a18, .ref a19, .ref a20, .ref a21, .ref a22, .ref a23, .ref a24, .ref a25, .ref a26, .ref a27, .ref a28, .ref a29, .ref a30, .ref a31, .int 0, .int v_m_41, .ref a32, .ref a33, .int v_m_44, .int v_m_45, .int v_m_46, .int v_m_47, .ref a34, .int v_m_49, .ref a35, .ref a36, .ref a37, .int v_m_53, .int v_m_54, .int v_m_55, .int v_m_56, .int v_m_57, .int v_m_58, .int v_m_59, .int v_m_60, .ref a38, .int v_m_62, .ref a39, .ref a40, .ref a41, .ref a42, .int v_m_67, .int v_m_68]))]) (k_rS hC hN hZ hS hA hK hP hD (c7_X10_isIn l G cI cJ cB cZ b1 0 9 (by omega) (by omega) (by omega) (by omega)) [] rfl (by decide +kernel) mi_X10_isIn st_X10_isIn wm_X10_307 hl.1 rfl rfl (Nat.le_of_ble_eq_true rfl) ⟨(Nat.le_of_ble_eq_true rfl), (Nat.le_of_ble_eq_true rfl)⟩ dX10_doubt_4 ⟨(Nat.le_of_ble_eq_true rfl), (Nat.le_of_ble_eq_true rfl)⟩) hP hD hS hA [] [0] rfl rfl (by decide +kernel) (by decide +kernel) (fun r1 u1 H locs hp hP hD hS => ?_)
  have hP : va_P G cl [(a0, .inr (10, [.ref a1, .ref a2, .int v_m_2, .int v_m_3, .int v_m_4, .int v_m_5, .int v_m_6, .int v_m_7, .int v_m_8, .int v_m_9, .long w_m_10, .ref a3, .ref a4, .ref a5, .ref a6, .ref a7, .ref a8, .ref a9, .ref a10, .ref a11, .ref a12, .ref a13, .ref a14, .ref a15, .ref a16, .ref a17, .ref a18, .ref a19, .ref a20, .ref a21, .ref a22, .ref a23, .ref a24, .ref a25, .ref a26, .ref a27, .ref a28, .ref a29, .ref a30, .ref a31, .int 0, .int v_m_41, .ref a32, .ref a33, .int v_m_44, .int v_m_45, .int v_m_46, .int v_m_47, .ref a34, .int v_m_49, .ref a35, .ref a36, .ref a37, .int v_m_53, .int v_m_54, .int v_m_55, .int v_m_56, .int v_m_57, .int v_m_58, .int v_m_59, .int v_m_60, .ref a38, .int v_m_62, .ref a39, .ref a40, .ref a41, .ref a42, .int v_m_67, .int v_m_68]))] H := hP
  have hD : va_D A [(a0, .inr (10, [.ref a1, .ref a2, .int v_m_2, .int v_m_3, .int v_m_4, .int v_m_5, .int v_m_6, .int v_m_7, .int v_m_8, .int v_m_9, .long w_m_10, .ref a3, .ref a4, .ref a5, .ref a6, .ref a7, .ref a8, .ref a9, .ref a10, .ref a11, .ref a12, .ref a13, .ref a14, .ref a15, .ref a16, .ref a17, .ref a18, .ref a19, .ref a20, .ref a21, .ref a22, .ref a23, .ref a24, .ref a25, .ref a26, .ref a27, .ref a28, .ref a29, .ref a30, .ref a31, .int 0, .int v_m_41, .ref a32, .ref a33, .int v_m_44, .int v_m_45, .int v_m_46, .int v_m_47, .ref a34, .int v_m_49, .ref a35, .ref a36, .ref a37, .int v_m_53, .int v_m_54, .int v_m_55, .int v_m_56, .int v_m_57, .int v_m_58, .int v_m_59, .int v_m_60, .ref a38, .int v_m_62, .ref a39, .ref a40, .ref a41, .ref a42, .int v_m_67, .int v_m_68]))] := hD
  rcases (show (r1 = 0 ∧ (True) ∧ (inI 0 b1 0 9)) ∨ (r1 = 1 ∧ (0 ≤ b1.toInt ∧ b1.toInt ≤ 9) ∧ (inI 1 b1 0 9)) from hp) with ⟨rfl, hq1, hin_4⟩ | ⟨rfl, hq1, hin_4⟩
  · clear hp
    have l_1 : (0 : Int32).toInt = 0 := rfl
    refine lv_if_eq (tgt := 31) hx hb dX10_doubt_7 (by decide) (fun _ => ?_) (fun c_ => absurd (by decide +kernel) c_)
    refine lv_iconst (v := 0) hx hb dX10_doubt_31 (by decide) ?_
    have l_l4 : (0 : Int32).toInt = 0 := rfl
    rw [← hQm]
    exact k_zret hC hr hlk hK hP hD hS (v_m_46, v_m_47) [0] rfl (by decide +kernel) rfl (show 0 ≤ (0 : Int32).toInt ∧ (0 : Int32).toInt ≤ 1 ∧ 0 ≤ v_m_47.toInt ∧ v_m_47.toInt ≤ 1 ∧ (v_m_47.toInt ≤ v_m_47.toInt) from by omega) (Nat.le_of_ble_eq_true rfl) (Nat.le_of_ble_eq_true rfl) dX10_doubt_32
  · clear hp
    have l_1 : (1 : Int32).toInt = 1 := rfl
    refine lv_if_eq (tgt := 31) hx hb dX10_doubt_7 (by decide) (fun c_ => absurd c_ (by decide +kernel)) (fun _ => ?_)
    refine lv_aload_n hx hb dX10_doubt_10 rfl (lv_at hl 0 rfl) ?_
    refine k_get hC hK hP iX10 0 46 wf_X10_252 rfl (by decide) rfl rfl dX10_doubt_11 ?_
    refine lv_iload_n hx hb dX10_doubt_14 rfl (lv_at hl 1 rfl) ?_
    refine lv_ishr hx hb dX10_doubt_15 ?_
    refine lv_topi (fun z5 _ => ?_)
    refine lv_iconst (v := 1) hx hb dX10_doubt_16 (by decide) ?_
    refine lv_iand hx hb dX10_doubt_17 ?_
    refine t_i (fun q => 0 ≤ q.toInt ∧ q.toInt ≤ 1) (by have h_ := and_b (x := z5) (y := 1) (by decide); exact h_) (fun z6 tz6 => ?_)
    refine lv_iconst (v := 1) hx hb dX10_doubt_18 (by decide) ?_
    refine lv_icmp_ne (tgt := 26) hx hb dX10_doubt_19 (by decide) (fun c7 => ?_) (fun c7 => ?_)
    · have dc7 : z6.toInt ≠ 1 := fa_ne c7
      refine lv_iconst (v := 0) hx hb dX10_doubt_26 (by decide) ?_
      refine lv_iload_n hx hb dX10_doubt_27 rfl (lv_at hl 2 rfl) ?_
      refine lv_icmp_ne (tgt := 33) hx hb dX10_doubt_28 (by decide) (fun c8 => ?_) (fun c8 => ?_)
      · have dc8 : 0 ≠ b2.toInt := fa_ne c8
        refine lv_aload_n hx hb dX10_doubt_33 rfl (lv_at hl 0 rfl) ?_
        refine lv_dup hx hb dX10_doubt_34 rfl ?_
        refine k_get hC hK hP iX10 0 46 wf_X10_252 rfl (by decide) rfl rfl dX10_doubt_35 ?_
        refine lv_iconst (v := 1) hx hb dX10_doubt_38 (by decide) ?_
        refine lv_iload_n hx hb dX10_doubt_39 rfl (lv_at hl 1 rfl) ?_
        refine lv_ishl hx hb dX10_doubt_40 ?_
        refine t_i (fun q => 1 ≤ q.toInt ∧ q.toInt ≤ 512) (shl1_b (k := 9) (by decide) (by omega) (by omega)) (fun z9 tz9 => ?_)
        refine lv_ixor hx hb dX10_doubt_41 ?_
        refine lv_topi (fun z10 _ => ?_)
        refine k_put hC hK hP hD hS iX10 tyX10_ok nmX10 0 46 wf_X10_252 rfl (by decide) rfl rfl rfl rfl (Nat.le_of_ble_eq_true rfl) dX10_doubt_42 (fun H locs hP hD hS => ?_)
        have hP : va_P G cl [(a0, .inr (10, [.ref a1, .ref a2, .int v_m_2, .int v_m_3, .int v_m_4, .int v_m_5, .int v_m_6, .int v_m_7, .int v_m_8, .int v_m_9, .long w_m_10, .ref a3, .ref a4, .ref a5, .ref a6, .ref a7, .ref a8, .ref a9, .ref a10, .ref a11, .ref a12, .ref a13, .ref a14, .ref a15, .ref a16, .ref a17, .ref a18, .ref a19, .ref a20, .ref a21, .ref a22, .ref a23, .ref a24, .ref a25, .ref a26, .ref a27, .ref a28, .ref a29, .ref a30, .ref a31, .int 0, .int v_m_41, .ref a32, .ref a33, .int v_m_44, .int v_m_45, .int z10, .int v_m_47, .ref a34, .int v_m_49, .ref a35, .ref a36, .ref a37, .int v_m_53, .int v_m_54, .int v_m_55, .int v_m_56, .int v_m_57, .int v_m_58, .int v_m_59, .int v_m_60, .ref a38, .int v_m_62, .ref a39, .ref a40, .ref a41, .ref a42, .int v_m_67, .int v_m_68]))] H := hP
        have hD : va_D A [(a0, .inr (10, [.ref a1, .ref a2, .int v_m_2, .int v_m_3, .int v_m_4, .int v_m_5, .int v_m_6, .int v_m_7, .int v_m_8, .int v_m_9, .long w_m_10, .ref a3, .ref a4, .ref a5, .ref a6, .ref a7, .ref a8, .ref a9, .ref a10, .ref a11, .ref a12, .ref a13, .ref a14, .ref a15, .ref a16, .ref a17, .ref a18, .ref a19, .ref a20, .ref a21, .ref a22, .ref a23, .ref a24, .ref a25, .ref a26, .ref a27, .ref a28, .ref a29, .ref a30, .ref a31, .int 0, .int v_m_41, .ref a32, .ref a33, .int v_m_44, .int v_m_45, .int z10, .int v_m_47, .ref a34, .int v_m_49, .ref a35, .ref a36, .ref a37, .int v_m_53, .int v_m_54, .int v_m_55, .int v_m_56, .int v_m_57, .int v_m_58, .int v_m_59, .int v_m_60, .ref a38, .int v_m_62, .ref a39, .ref a40, .ref a41, .ref a42, .int v_m_67, .int v_m_68]))] := hD
        refine lv_aload_n hx hb dX10_doubt_45 rfl (lv_at hl 0 rfl) ?_
        refine lv_iconst (v := 0) hx hb dX10_doubt_46 (by decide) ?_
        refine k_put hC hK hP hD hS iX10 tyX10_ok nmX10 0 47 wf_X10_255 rfl (by decide) rfl rfl rfl rfl (Nat.le_of_ble_eq_true rfl) dX10_doubt_47 (fun H locs hP hD hS => ?_)
        have hP : va_P G cl [(a0, .inr (10, [.ref a1, .ref a2, .int v_m_2, .int v_m_3, .int v_m_4, .int v_m_5, .int v_m_6, .int v_m_7, .int v_m_8, .int v_m_9, .long w_m_10, .ref a3, .ref a4, .ref a5, .ref a6, .ref a7, .ref a8, .ref a9, .ref a10, .ref a11, .ref a12, .ref a13, .ref a14, .ref a15, .ref a16, .ref a17, .ref a18, .ref a19, .ref a20, .ref a21, .ref a22, .ref a23, .ref a24, .ref a25, .ref a26, .ref a27, .ref a28, .ref a29, .ref a30, .ref a31, .int 0, .int v_m_41, .ref a32, .ref a33, .int v_m_44, .int v_m_45, .int z10, .int 0, .ref a34, .int v_m_49, .ref a35, .ref a36, .ref a37, .int v_m_53, .int v_m_54, .int v_m_55, .int v_m_56, .int v_m_57, .int v_m_58, .int v_m_59, .int v_m_60, .ref a38, .int v_m_62, .ref a39, .ref a40, .ref a41, .ref a42, .int v_m_67, .int v_m_68]))] H := hP
        have hD : va_D A [(a0, .inr (10, [.ref a1, .ref a2, .int v_m_2, .int v_m_3, .int v_m_4, .int v_m_5, .int v_m_6, .int v_m_7, .int v_m_8, .int v_m_9, .long w_m_10, .ref a3, .ref a4, .ref a5, .ref a6, .ref a7, .ref a8, .ref a9, .ref a10, .ref a11, .ref a12, .ref a13, .ref a14, .ref a15, .ref a16, .ref a17, .ref a18, .ref a19, .ref a20, .ref a21, .ref a22, .ref a23, .ref a24, .ref a25, .ref a26, .ref a27, .ref a28, .ref a29, .ref a30, .ref a31, .int 0, .int v_m_41, .ref a32, .ref a33, .int v_m_44, .int v_m_45, .int z10, .int 0, .ref a34, .int v_m_49, .ref a35, .ref a36, .ref a37, .int v_m_53, .int v_m_54, .int v_m_55, .int v_m_56, .int v_m_57, .int v_m_58, .int v_m_59, .int v_m_60, .ref a38, .int v_m_62, .ref a39, .ref a40, .ref a41, .ref a42, .int v_m_67, .int v_m_68]))] := hD
        refine lv_iconst (v := 1) hx hb dX10_doubt_50 (by decide) ?_
        have l_l11 : (0 : Int32).toInt = 0 := rfl
        have l_l12 : (1 : Int32).toInt = 1 := rfl
        rw [← hQm]
        exact k_zret hC hr hlk hK hP hD hS (z10, 0) [0] rfl (by decide +kernel) rfl (show 0 ≤ (1 : Int32).toInt ∧ (1 : Int32).toInt ≤ 1 ∧ 0 ≤ (0 : Int32).toInt ∧ (0 : Int32).toInt ≤ 1 ∧ ((0 : Int32).toInt ≤ v_m_47.toInt) from by omega) (Nat.le_of_ble_eq_true rfl) (Nat.le_of_ble_eq_true rfl) dX10_doubt_51
      · have dc8 : 0 = b2.toInt := (fa_eq _ _).mp c8
        refine lv_iconst (v := 0) hx hb dX10_doubt_31 (by decide) ?_
        have l_l13 : (0 : Int32).toInt = 0 := rfl
        rw [← hQm]
        exact k_zret hC hr hlk hK hP hD hS (v_m_46, v_m_47) [0] rfl (by decide +kernel) rfl (show 0 ≤ (0 : Int32).toInt ∧ (0 : Int32).toInt ≤ 1 ∧ 0 ≤ v_m_47.toInt ∧ v_m_47.toInt ≤ 1 ∧ (v_m_47.toInt ≤ v_m_47.toInt) from by omega) (Nat.le_of_ble_eq_true rfl) (Nat.le_of_ble_eq_true rfl) dX10_doubt_32
    · have dc7 : z6.toInt = 1 := (fa_eq _ _).mp c7
      refine lv_iconst (v := 1) hx hb dX10_doubt_22 (by decide) ?_
      refine lv_goto (tgt := 27) hx hb dX10_doubt_23 (by decide) ?_
      refine lv_iload_n hx hb dX10_doubt_27 rfl (lv_at hl 2 rfl) ?_
      refine lv_icmp_ne (tgt := 33) hx hb dX10_doubt_28 (by decide) (fun c14 => ?_) (fun c14 => ?_)
      · have dc14 : 1 ≠ b2.toInt := fa_ne c14
        refine lv_aload_n hx hb dX10_doubt_33 rfl (lv_at hl 0 rfl) ?_
        refine lv_dup hx hb dX10_doubt_34 rfl ?_
        refine k_get hC hK hP iX10 0 46 wf_X10_252 rfl (by decide) rfl rfl dX10_doubt_35 ?_
        refine lv_iconst (v := 1) hx hb dX10_doubt_38 (by decide) ?_
        refine lv_iload_n hx hb dX10_doubt_39 rfl (lv_at hl 1 rfl) ?_
        refine lv_ishl hx hb dX10_doubt_40 ?_
        refine t_i (fun q => 1 ≤ q.toInt ∧ q.toInt ≤ 512) (shl1_b (k := 9) (by decide) (by omega) (by omega)) (fun z15 tz15 => ?_)
        refine lv_ixor hx hb dX10_doubt_41 ?_
        refine lv_topi (fun z16 _ => ?_)
        refine k_put hC hK hP hD hS iX10 tyX10_ok nmX10 0 46 wf_X10_252 rfl (by decide) rfl rfl rfl rfl (Nat.le_of_ble_eq_true rfl) dX10_doubt_42 (fun H locs hP hD hS => ?_)
        have hP : va_P G cl [(a0, .inr (10, [.ref a1, .ref a2, .int v_m_2, .int v_m_3, .int v_m_4, .int v_m_5, .int v_m_6, .int v_m_7, .int v_m_8, .int v_m_9, .long w_m_10, .ref a3, .ref a4, .ref a5, .ref a6, .ref a7, .ref a8, .ref a9, .ref a10, .ref a11, .ref a12, .ref a13, .ref a14, .ref a15, .ref a16, .ref a17, .ref a18, .ref a19, .ref a20, .ref a21, .ref a22, .ref a23, .ref a24, .ref a25, .ref a26, .ref a27, .ref a28, .ref a29, .ref a30, .ref a31, .int 0, .int v_m_41, .ref a32, .ref a33, .int v_m_44, .int v_m_45, .int z16, .int v_m_47, .ref a34, .int v_m_49, .ref a35, .ref a36, .ref a37, .int v_m_53, .int v_m_54, .int v_m_55, .int v_m_56, .int v_m_57, .int v_m_58, .int v_m_59, .int v_m_60, .ref a38, .int v_m_62, .ref a39, .ref a40, .ref a41, .ref a42, .int v_m_67, .int v_m_68]))] H := hP
        have hD : va_D A [(a0, .inr (10, [.ref a1, .ref a2, .int v_m_2, .int v_m_3, .int v_m_4, .int v_m_5, .int v_m_6, .int v_m_7, .int v_m_8, .int v_m_9, .long w_m_10, .ref a3, .ref a4, .ref a5, .ref a6, .ref a7, .ref a8, .ref a9, .ref a10, .ref a11, .ref a12, .ref a13, .ref a14, .ref a15, .ref a16, .ref a17, .ref a18, .ref a19, .ref a20, .ref a21, .ref a22, .ref a23, .ref a24, .ref a25, .ref a26, .ref a27, .ref a28, .ref a29, .ref a30, .ref a31, .int 0, .int v_m_41, .ref a32, .ref a33, .int v_m_44, .int v_m_45, .int z16, .int v_m_47, .ref a34, .int v_m_49, .ref a35, .ref a36, .ref a37, .int v_m_53, .int v_m_54, .int v_m_55, .int v_m_56, .int v_m_57, .int v_m_58, .int v_m_59, .int v_m_60, .ref a38, .int v_m_62, .ref a39, .ref a40, .ref a41, .ref a42, .int v_m_67, .int v_m_68]))] := hD
        refine lv_aload_n hx hb dX10_doubt_45 rfl (lv_at hl 0 rfl) ?_
        refine lv_iconst (v := 0) hx hb dX10_doubt_46 (by decide) ?_
        refine k_put hC hK hP hD hS iX10 tyX10_ok nmX10 0 47 wf_X10_255 rfl (by decide) rfl rfl rfl rfl (Nat.le_of_ble_eq_true rfl) dX10_doubt_47 (fun H locs hP hD hS => ?_)
        have hP : va_P G cl [(a0, .inr (10, [.ref a1, .ref a2, .int v_m_2, .int v_m_3, .int v_m_4, .int v_m_5, .int v_m_6, .int v_m_7, .int v_m_8, .int v_m_9, .long w_m_10, .ref a3, .ref a4, .ref a5, .ref a6, .ref a7, .ref a8, .ref a9, .ref a10, .ref a11, .ref a12, .ref a13, .ref a14, .ref a15, .ref a16, .ref a17, .ref a18, .ref a19, .ref a20, .ref a21, .ref a22, .ref a23, .ref a24, .ref a25, .ref a26, .ref a27, .ref a28, .ref a29, .ref a30, .ref a31, .int 0, .int v_m_41, .ref a32, .ref a33, .int v_m_44, .int v_m_45, .int z16, .int 0, .ref a34, .int v_m_49, .ref a35, .ref a36, .ref a37, .int v_m_53, .int v_m_54, .int v_m_55, .int v_m_56, .int v_m_57, .int v_m_58, .int v_m_59, .int v_m_60, .ref a38, .int v_m_62, .ref a39, .ref a40, .ref a41, .ref a42, .int v_m_67, .int v_m_68]))] H := hP
        have hD : va_D A [(a0, .inr (10, [.ref a1, .ref a2, .int v_m_2, .int v_m_3, .int v_m_4, .int v_m_5, .int v_m_6, .int v_m_7, .int v_m_8, .int v_m_9, .long w_m_10, .ref a3, .ref a4, .ref a5, .ref a6, .ref a7, .ref a8, .ref a9, .ref a10, .ref a11, .ref a12, .ref a13, .ref a14, .ref a15, .ref a16, .ref a17, .ref a18, .ref a19, .ref a20, .ref a21, .ref a22, .ref a23, .ref a24, .ref a25, .ref a26, .ref a27, .ref a28, .ref a29, .ref a30, .ref a31, .int 0, .int v_m_41, .ref a32, .ref a33, .int v_m_44, .int v_m_45, .int z16, .int 0, .ref a34, .int v_m_49, .ref a35, .ref a36, .ref a37, .int v_m_53, .int v_m_54, .int v_m_55, .int v_m_56, .int v_m_57, .int v_m_58, .int v_m_59, .int v_m_60, .ref a38, .int v_m_62, .ref a39, .ref a40, .ref a41, .ref a42, .int v_m_67, .int v_m_68]))] := hD
        refine lv_iconst (v := 1) hx hb dX10_doubt_50 (by decide) ?_
        have l_l17 : (0 : Int32).toInt = 0 := rfl
        have l_l18 : (1 : Int32).toInt = 1 := rfl
        rw [← hQm]
        exact k_zret hC hr hlk hK hP hD hS (z16, 0) [0] rfl (by decide +kernel) rfl (show 0 ≤ (1 : Int32).toInt ∧ (1 : Int32).toInt ≤ 1 ∧ 0 ≤ (0 : Int32).toInt ∧ (0 : Int32).toInt ≤ 1 ∧ ((0 : Int32).toInt ≤ v_m_47.toInt) from by omega) (Nat.le_of_ble_eq_true rfl) (Nat.le_of_ble_eq_true rfl) dX10_doubt_51
      · have dc14 : 1 = b2.toInt := (fa_eq _ _).mp c14
        refine lv_iconst (v := 0) hx hb dX10_doubt_31 (by decide) ?_
        have l_l19 : (0 : Int32).toInt = 0 := rfl
        rw [← hQm]
        exact k_zret hC hr hlk hK hP hD hS (v_m_46, v_m_47) [0] rfl (by decide +kernel) rfl (show 0 ≤ (0 : Int32).toInt ∧ (0 : Int32).toInt ≤ 1 ∧ 0 ≤ v_m_47.toInt ∧ v_m_47.toInt ≤ 1 ∧ (v_m_47.toInt ≤ v_m_47.toInt) from by omega) (Nat.le_of_ble_eq_true rfl) (Nat.le_of_ble_eq_true rfl) dX10_doubt_32
theorem dX10_about_0 : decode cX10_about 0 = .ok (.iload_n 1, 1) := by decide +kernel
theorem dX10_about_1 : decode cX10_about 1 = .ok (.tableswitch 88 0 6 #[43, 48, 58, 63, 73, 78, 83], 43) := by decide +kernel
theorem dX10_about_89 : decode cX10_about 89 = .ok (.iconst (-1), 1) := by decide +kernel
theorem dX10_about_90 : decode cX10_about 90 = .ok (.ireturn, 1) := by decide +kernel
theorem dX10_about_44 : decode cX10_about 44 = .ok (.aload_n 0, 1) := by decide +kernel
theorem dX10_about_45 : decode cX10_about 45 = .ok (.invokevirtual 304, 3) := by decide +kernel
theorem dX10_about_48 : decode cX10_about 48 = .ok (.ireturn, 1) := by decide +kernel
theorem dX10_about_49 : decode cX10_about 49 = .ok (.aload_n 0, 1) := by decide +kernel
theorem dX10_about_50 : decode cX10_about 50 = .ok (.getfield 159, 3) := by decide +kernel
set_option maxRecDepth 100000 in
theorem wf_X10_159 : Cond.fieldLink RX10 159 "StoneTrustModel" "weighs" "[I" ∈ gw := gm (List.mem_of_getElem? (i := 1282) (by decide +kernel)) rfl
theorem dX10_about_53 : decode cX10_about 53 = .ok (.aload_n 0, 1) := by decide +kernel
theorem dX10_about_54 : decode cX10_about 54 = .ok (.getfield 240, 3) := by decide +kernel
theorem dX10_about_57 : decode cX10_about 57 = .ok (.iaload, 1) := by decide +kernel
theorem dX10_about_58 : decode cX10_about 58 = .ok (.ireturn, 1) := by decide +kernel
theorem dX10_about_59 : decode cX10_about 59 = .ok (.aload_n 0, 1) := by decide +kernel
theorem dX10_about_60 : decode cX10_about 60 = .ok (.getfield 249, 3) := by decide +kernel
theorem dX10_about_63 : decode cX10_about 63 = .ok (.ireturn, 1) := by decide +kernel
theorem dX10_about_64 : decode cX10_about 64 = .ok (.aload_n 0, 1) := by decide +kernel
theorem dX10_about_65 : decode cX10_about 65 = .ok (.getfield 162, 3) := by decide +kernel
set_option maxRecDepth 100000 in
theorem wf_X10_162 : Cond.fieldLink RX10 162 "StoneTrustModel" "sales" "[I" ∈ gw := gm (List.mem_of_getElem? (i := 1283) (by decide +kernel)) rfl
theorem dX10_about_68 : decode cX10_about 68 = .ok (.aload_n 0, 1) := by decide +kernel
theorem dX10_about_69 : decode cX10_about 69 = .ok (.getfield 240, 3) := by decide +kernel
theorem dX10_about_72 : decode cX10_about 72 = .ok (.iaload, 1) := by decide +kernel
theorem dX10_about_73 : decode cX10_about 73 = .ok (.ireturn, 1) := by decide +kernel
theorem dX10_about_74 : decode cX10_about 74 = .ok (.aload_n 0, 1) := by decide +kernel
theorem dX10_about_75 : decode cX10_about 75 = .ok (.getfield 318, 3) := by decide +kernel
theorem dX10_about_78 : decode cX10_about 78 = .ok (.ireturn, 1) := by decide +kernel
theorem dX10_about_79 : decode cX10_about 79 = .ok (.aload_n 0, 1) := by decide +kernel
theorem dX10_about_80 : decode cX10_about 80 = .ok (.getfield 237, 3) := by decide +kernel
theorem dX10_about_83 : decode cX10_about 83 = .ok (.ireturn, 1) := by decide +kernel
theorem dX10_about_84 : decode cX10_about 84 = .ok (.aload_n 0, 1) := by decide +kernel
theorem dX10_about_85 : decode cX10_about 85 = .ok (.getfield 252, 3) := by decide +kernel
theorem dX10_about_88 : decode cX10_about 88 = .ok (.ireturn, 1) := by decide +kernel
set_option maxHeartbeats 4000000 in
set_option maxRecDepth 100000 in
theorem c15_X10_about (l : Launch) (G : va_G) (cI cJ cB cZ : ClassId) (a0 a1 a2 a3 a4 a5 a6 a7 a8 a9 a10 a11 a12 a13 a14 a15 a16 a17 a18 a19 a20 a21 a22 a23 a24 a25 a26 a27 a28 a29 a30 a31 a32 a33 a34 a35 a36 a37 a38 a39 a40 a41 a42 : Nat) (b1 : Int32) (v_m_2 : Int32) (v_m_3 : Int32) (v_m_4 : Int32) (v_m_5 : Int32) (v_m_6 : Int32) (v_m_7 : Int32) (v_m_8 : Int32) (v_m_9 : Int32) (w_m_10 : Int64) (v_m_41 : Int32) (v_m_44 : Int32) (v_m_45 : Int32) (v_m_46 : Int32) (v_m_47 : Int32) (v_m_49 : Int32) (v_m_53 : Int32) (v_m_54 : Int32) (v_m_55 : Int32) (v_m_56 : Int32) (v_m_57 : Int32) (v_m_58 : Int32) (v_m_59 : Int32) (v_m_60 : Int32) (v_m_62 : Int32) (v_m_67 : Int32) (v_m_68 : Int32) (v_m_stones_0 : Int32) (v_m_stones_1 : Int32) (v_m_weighs_0 : Int32) (v_m_weighs_1 : Int32) (v_m_sales_0 : Int32) (v_m_sales_1 : Int32) (hv_0 : 0 ≤ v_m_2.toInt) (hv_1 : v_m_2.toInt ≤ 1300) (hv_2 : 0 ≤ v_m_3.toInt) (hv_3 : v_m_3.toInt ≤ 1300) (hv_4 : 0 ≤ v_m_4.toInt) (hv_5 : v_m_4.toInt ≤ 5) (hv_6 : 0 ≤ v_m_6.toInt) (hv_7 : v_m_6.toInt ≤ 1300) (hv_8 : 0 ≤ v_m_7.toInt) (hv_9 : v_m_7.toInt ≤ 1301) (hv_10 : 0 ≤ v_m_8.toInt) (hv_11 : v_m_8.toInt ≤ 5) (hv_12 : 0 ≤ v_m_9.toInt) (hv_13 : v_m_9.toInt ≤ 9999) (hv_14 : 0 ≤ v_m_41.toInt) (hv_15 : v_m_41.toInt ≤ 1) (hv_16 : 0 ≤ v_m_44.toInt) (hv_17 : v_m_44.toInt ≤ 30) (hv_18 : 0 ≤ v_m_47.toInt) (hv_19 : v_m_47.toInt ≤ 1) (hv_20 : 0 ≤ v_m_49.toInt) (hv_21 : v_m_49.toInt ≤ 46) (hv_22 : 0 ≤ v_m_53.toInt) (hv_23 : v_m_53.toInt ≤ 300000) (hv_24 : 0 ≤ v_m_55.toInt) (hv_25 : v_m_55.toInt ≤ 300109) (hv_26 : v_m_56.toInt ≤ 300000) (hv_27 : 0 ≤ v_m_57.toInt) (hv_28 : v_m_57.toInt ≤ 1) (hv_29 : 0 ≤ v_m_60.toInt) (hv_30 : v_m_60.toInt ≤ 1) (hv_31 : 0 ≤ v_m_stones_0.toInt) (hv_32 : v_m_stones_0.toInt ≤ 6) (hv_33 : 0 ≤ v_m_stones_1.toInt) (hv_34 : v_m_stones_1.toInt ≤ 6) (hv_35 : 0 ≤ v_m_weighs_0.toInt) (hv_36 : v_m_weighs_0.toInt ≤ 16) (hv_37 : 0 ≤ v_m_weighs_1.toInt) (hv_38 : v_m_weighs_1.toInt ≤ 16) (hv_39 : 0 ≤ v_m_sales_0.toInt) (hv_40 : v_m_sales_0.toInt ≤ 10) (hv_41 : 0 ≤ v_m_sales_1.toInt) (hv_42 : v_m_sales_1.toInt ≤ 10) : Con l G (TY cI cJ cB cZ) yX10_about cX10_about 2 (some .int) ({ frames := 1, cells := 0, slots := 0, locals := 20 } : Room) [.ref a0, .int b1] [(a0, .inr (10, [.ref a1, .ref a2, .int v_m_2, .int v_m_3, .int v_m_4, .int v_m_5, .int v_m_6, .int v_m_7, .int v_m_8, .int v_m_9, .long w_m_10, .ref a3, .ref a4, .ref a5, .ref a6, .ref a7, .ref a8, .ref a9, .ref a10, .ref a11, .ref a12, .ref a13, .ref a14, .ref a15, .ref a16, .ref a17, .ref a18, .ref a19, .ref a20, .ref a21, .ref a22, .ref a23, .ref a24, .ref a25, .ref a26, .ref a27, .ref a28, .ref a29, .ref a30, .ref a31, .int 0, .int v_m_41, .ref a32, .ref a33, .int v_m_44, .int v_m_45, .int v_m_46, .int v_m_47, .ref a34, .int v_m_49, .ref a35, .ref a36, .ref a37, .int v_m_53, .int v_m_54, .int v_m_55, .int v_m_56, .int v_m_57, .int v_m_58, .int v_m_59, .int v_m_60, .ref a38, .int v_m_62, .ref a39, .ref a40, .ref a41, .ref a42, .int v_m_67, .int v_m_68])), (a12, .inl (cI, 2, .inl (ex2 v_m_stones_0 v_m_stones_1))), (a19, .inl (cI, 2, .inl (ex2 v_m_weighs_0 v_m_weighs_1))), (a20, .inl (cI, 2, .inl (ex2 v_m_sales_0 v_m_sales_1)))] (QI G (TY cI cJ cB cZ) (fun (r : Int32) (u : Unit) => (True)) (fun u : Unit => [(a0, .inr (10, [.ref a1, .ref a2, .int v_m_2, .int v_m_3, .int v_m_4, .int v_m_5, .int v_m_6, .int v_m_7, .int v_m_8, .int v_m_9, .long w_m_10, .ref a3, .ref a4, .ref a5, .ref a6, .ref a7, .ref a8, .ref a9, .ref a10, .ref a11, .ref a12, .ref a13, .ref a14, .ref a15, .ref a16, .ref a17, .ref a18, .ref a19, .ref a20, .ref a21, .ref a22, .ref a23, .ref a24, .ref a25, .ref a26, .ref a27, .ref a28, .ref a29, .ref a30, .ref a31, .int 0, .int v_m_41, .ref a32, .ref a33, .int v_m_44, .int v_m_45, .int v_m_46, .int v_m_47, .ref a34, .int v_m_49, .ref a35, .ref a36, .ref a37, .int v_m_53, .int v_m_54, .int v_m_55, .int v_m_56, .int v_m_57, .int v_m_58, .int v_m_59, .int v_m_60, .ref a38, .int v_m_62, .ref a39, .ref a40, .ref a41, .ref a42, .int v_m_67, .int v_m_68])), (a12, .inl (cI, 2, .inl (ex2 v_m_stones_0 v_m_stones_1))), (a19, .inl (cI, 2, .inl (ex2 v_m_weighs_0 v_m_weighs_1))), (a20, .inl (cI, 2, .inl (ex2 v_m_sales_0 v_m_sales_1)))])) := by
  refine k_met (by decide) (Nat.le_of_ble_eq_true rfl) ?_
  intro p e s m below meth c A ls hC hr hlk hnm hN hZ hK hA hP hD hS hl
  have hl : lv_has ls 2 [(0, .ref a0), (1, .int b1)] := hl
  generalize hQm : MQ below _ _ s _ _ A = Qm
  generalize (List.toArray _ : Array Value) = args at hC hQm ⊢
  obtain ⟨hx, hb, hml, hown, hts⟩ := id hC
  obtain ⟨H, hH⟩ : ∃ q, q = s.heap := ⟨_, rfl⟩
  obtain ⟨locs, hlo⟩ : ∃ q : List Loc, q = [] := ⟨_, rfl⟩
  have hP : va_P G cl [(a0, .inr (10, [.ref a1, .ref a2, .int v_m_2, .int v_m_3, .int v_m_4, .int v_m_5, .int v_m_6, .int v_m_7, .int v_m_8, .int v_m_9, .long w_m_10, .ref a3, .ref a4, .ref a5, .ref a6, .ref a7, .ref a8, .ref a9, .ref a10, .ref a11, .ref a12, .ref a13, .ref a14, .ref a15, .ref a16, .ref a17, .ref a18, .ref a19, .ref a20, .ref a21, .ref a22, .ref a23, .ref a24, .ref a25, .ref a26, .ref a27, .ref a28, .ref a29, .ref a30, .ref a31, .int 0, .int v_m_41, .ref a32, .ref a33, .int v_m_44, .int v_m_45, .int v_m_46, .int v_m_47, .ref a34, .int v_m_49, .ref a35, .ref a36, .ref a37, .int v_m_53, .int v_m_54, .int v_m_55, .int v_m_56, .int v_m_57, .int v_m_58, .int v_m_59, .int v_m_60, .ref a38, .int v_m_62, .ref a39, .ref a40, .ref a41, .ref a42, .int v_m_67, .int v_m_68])), (a12, .inl (cI, 2, .inl (ex2 v_m_stones_0 v_m_stones_1))), (a19, .inl (cI, 2, .inl (ex2 v_m_weighs_0 v_m_weighs_1))), (a20, .inl (cI, 2, .inl (ex2 v_m_sales_0 v_m_sales_1)))] H := by rw [hH]; exact hP
  have hS : va_S A s.heap H locs := by rw [hH, hlo]; exact hS
  rw [← hlo]
  rw [← hH]
  refine lv_iload_n hx hb dX10_about_0 rfl (lv_at hl 1 rfl) ?_
  by_cases q1 : b1.toInt < 0 ∨ 6 < b1.toInt
  · refine lv_tableOut (tgt := 89) hx hb dX10_about_1 q1 (by decide) ?_
    refine lv_iconst (v := (-1)) hx hb dX10_about_89 (by decide) ?_
    have l_l2 : ((-1) : Int32).toInt = (-1) := rfl
    rw [← hQm]
    exact k_iret hC hr hlk hK hP hD hS () [0, 1, 2, 3] rfl (by decide +kernel) trivial (Nat.le_of_ble_eq_true rfl) (Nat.le_of_ble_eq_true rfl) dX10_about_90
  have e3 : b1.toInt = 0 ∨ b1.toInt = 1 ∨ b1.toInt = 2 ∨ b1.toInt = 3 ∨ b1.toInt = 4 ∨ b1.toInt = 5 ∨ b1.toInt = 6 := by omega
  rcases e3 with e3 | e3 | e3 | e3 | e3 | e3 | e3
  · refine lv_tableIn (tgt := 44) hx hb dX10_about_1 (by omega) (by omega) (by rw [e3]; rfl) (by decide) ?_
    refine lv_aload_n hx hb dX10_about_44 rfl (lv_at hl 0 rfl) ?_
    refine k_ci (wr := [(a19, .inl (cI, 2, .inl (ex2 v_m_weighs_0 v_m_weighs_1))), (a20, .inl (cI, 2, .inl (ex2 v_m_sales_0 v_m_sales_1)))]) (k_rV hC hN hZ hS hA hK hP hD (c4_X10_many l G cI cJ cB cZ a0 a1 a2 a3 a4 a5 a6 a7 a8 a9 a10 a11 a12 a13 a14 a15 a16 a17 a18 a19 a20 a21 a22 a23 a24 a25 a26 a27 a28 a29 a30 a31 a32 a33 a34 a35 a36 a37 a38 a39 a40 a41 a42 v_m_2 v_m_3 v_m_4 v_m_5 v_m_6 v_m_7 v_m_8 v_m_9 w_m_10 v_m_41 v_m_44 v_m_45 v_m_46 v_m_47 v_m_49 v_m_53 v_m_54 v_m_55 v_m_56 v_m_57 v_m_58 v_m_59 v_m_60 v_m_62 v_m_67 v_m_68 v_m_stones_0 v_m_stones_1 hv_0 hv_1 hv_2 hv_3 hv_4 hv_5 hv_6 hv_7 hv_8 hv_9 hv_10 hv_11 hv_12 hv_13 hv_14 hv_15 hv_16 hv_17 hv_18 hv_19 hv_20 hv_21 hv_22 hv_23 hv_24 hv_25 hv_26 hv_27 hv_28 hv_29 hv_30 hv_31 hv_32 hv_33 hv_34) [0, 1] rfl (by decide +kernel) mi_X10_many in_X10_many se_X10_many wm_X10_304 10 0 rfl rfl rfl hl.1 rfl rfl (Nat.le_of_ble_eq_true rfl) ⟨(Nat.le_of_ble_eq_true rfl), (Nat.le_of_ble_eq_true rfl)⟩ dX10_about_45 ⟨(Nat.le_of_ble_eq_true rfl), (Nat.le_of_ble_eq_true rfl)⟩) hP hD hS hA [0, 1] [2, 3] rfl rfl (by decide +kernel) (by decide +kernel) (fun r4 u4 H locs hp hP hD hS => ?_)
    have hp : (0 ≤ r4.toInt ∧ r4.toInt ≤ 6 ∧ (r4.toInt = v_m_stones_0.toInt)) := hp
    have hP : va_P G cl [(a19, .inl (cI, 2, .inl (ex2 v_m_weighs_0 v_m_weighs_1))), (a20, .inl (cI, 2, .inl (ex2 v_m_sales_0 v_m_sales_1))), (a0, .inr (10, [.ref a1, .ref a2, .int v_m_2, .int v_m_3, .int v_m_4, .int v_m_5, .int v_m_6, .int v_m_7, .int v_m_8, .int v_m_9, .long w_m_10, .ref a3, .ref a4, .ref a5, .ref a6, .ref a7, .ref a8, .ref a9, .ref a10, .ref a11, .ref a12, .ref a13, .ref a14, .ref a15, .ref a16, .ref a17, .ref a18, .ref a19, .ref a20, .ref a21, .ref a22, .ref a23, .ref a24, .ref a25, .ref a26, .ref a27, .ref a28, .ref a29, .ref a30, .ref a31, .int 0, .int v_m_41, .ref a32, .ref a33, .int v_m_44, .int v_m_45, .int v_m_46, .int v_m_47, .ref a34, .int v_m_49, .ref a35, .ref a36, .ref a37, .int v_m_53, .int v_m_54, .int v_m_55, .int v_m_56, .int v_m_57, .int v_m_58, .int v_m_59, .int v_m_60, .ref a38, .int v_m_62, .ref a39, .ref a40, .ref a41, .ref a42, .int v_m_67, .int v_m_68])), (a12, .inl (cI, 2, .inl (ex2 v_m_stones_0 v_m_stones_1)))] H := hP
    have hD : va_D A [(a19, .inl (cI, 2, .inl (ex2 v_m_weighs_0 v_m_weighs_1))), (a20, .inl (cI, 2, .inl (ex2 v_m_sales_0 v_m_sales_1))), (a0, .inr (10, [.ref a1, .ref a2, .int v_m_2, .int v_m_3, .int v_m_4, .int v_m_5, .int v_m_6, .int v_m_7, .int v_m_8, .int v_m_9, .long w_m_10, .ref a3, .ref a4, .ref a5, .ref a6, .ref a7, .ref a8, .ref a9, .ref a10, .ref a11, .ref a12, .ref a13, .ref a14, .ref a15, .ref a16, .ref a17, .ref a18, .ref a19, .ref a20, .ref a21, .ref a22, .ref a23, .ref a24, .ref a25, .ref a26, .ref a27, .ref a28, .ref a29, .ref a30, .ref a31, .int 0, .int v_m_41, .ref a32, .ref a33, .int v_m_44, .int v_m_45, .int v_m_46, .int v_m_47, .ref a34, .int v_m_49, .ref a35, .ref a36, .ref a37, .int v_m_53, .int v_m_54, .int v_m_55, .int v_m_56, .int v_m_57, .int v_m_58, .int v_m_59, .int v_m_60, .ref a38, .int v_m_62, .ref a39, .ref a40, .ref a41, .ref a42, .int v_m_67, .int v_m_68])), (a12, .inl (cI, 2, .inl (ex2 v_m_stones_0 v_m_stones_1)))] := hD
    have hq4 := hp
    rw [← hQm]
    exact k_iret hC hr hlk hK hP hD hS () [2, 3, 0, 1] rfl (by decide +kernel) trivial (Nat.le_of_ble_eq_true rfl) (Nat.le_of_ble_eq_true rfl) dX10_about_48
  · refine lv_tableIn (tgt := 49) hx hb dX10_about_1 (by omega) (by omega) (by rw [e3]; rfl) (by decide) ?_
    refine lv_aload_n hx hb dX10_about_49 rfl (lv_at hl 0 rfl) ?_
    refine k_get hC hK hP iX10 0 27 wf_X10_159 rfl (by decide) rfl rfl dX10_about_50 ?_
    refine lv_aload_n hx hb dX10_about_53 rfl (lv_at hl 0 rfl) ?_
    refine k_get hC hK hP iX10 0 40 wf_X10_240 rfl (by decide) rfl rfl dX10_about_54 ?_
    refine k_iald (v := v_m_weighs_0) hC hK hP 2 0 rfl (by decide +kernel) (by decide) rfl dX10_about_57 ?_
    rw [← hQm]
    exact k_iret hC hr hlk hK hP hD hS () [0, 1, 2, 3] rfl (by decide +kernel) trivial (Nat.le_of_ble_eq_true rfl) (Nat.le_of_ble_eq_true rfl) dX10_about_58
  · refine lv_tableIn (tgt := 59) hx hb dX10_about_1 (by omega) (by omega) (by rw [e3]; rfl) (by decide) ?_
    refine lv_aload_n hx hb dX10_about_59 rfl (lv_at hl 0 rfl) ?_
    refine k_get hC hK hP iX10 0 44 wf_X10_249 rfl (by decide) rfl rfl dX10_about_60 ?_
    rw [← hQm]
    exact k_iret hC hr hlk hK hP hD hS () [0, 1, 2, 3] rfl (by decide +kernel) trivial (Nat.le_of_ble_eq_true rfl) (Nat.le_of_ble_eq_true rfl) dX10_about_63
  · refine lv_tableIn (tgt := 64) hx hb dX10_about_1 (by omega) (by omega) (by rw [e3]; rfl) (by decide) ?_
    refine lv_aload_n hx hb dX10_about_64 rfl (lv_at hl 0 rfl) ?_
    refine k_get hC hK hP iX10 0 28 wf_X10_162 rfl (by decide) rfl rfl dX10_about_65 ?_
    refine lv_aload_n hx hb dX10_about_68 rfl (lv_at hl 0 rfl) ?_
    refine k_get hC hK hP iX10 0 40 wf_X10_240 rfl (by decide) rfl rfl dX10_about_69 ?_
    refine k_iald (v := v_m_sales_0) hC hK hP 3 0 rfl (by decide +kernel) (by decide) rfl dX10_about_72 ?_
    rw [← hQm]
    exact k_iret hC hr hlk hK hP hD hS () [0, 1, 2, 3] rfl (by decide +kernel) trivial (Nat.le_of_ble_eq_true rfl) (Nat.le_of_ble_eq_true rfl) dX10_about_73
  · refine lv_tableIn (tgt := 74) hx hb dX10_about_1 (by omega) (by omega) (by rw [e3]; rfl) (by decide) ?_
    refine lv_aload_n hx hb dX10_about_74 rfl (lv_at hl 0 rfl) ?_
    refine k_get hC hK hP iX10 0 45 wf_X10_318 rfl (by decide) rfl rfl dX10_about_75 ?_
    rw [← hQm]
    exact k_iret hC hr hlk hK hP hD hS () [0, 1, 2, 3] rfl (by decide +kernel) trivial (Nat.le_of_ble_eq_true rfl) (Nat.le_of_ble_eq_true rfl) dX10_about_78
  · refine lv_tableIn (tgt := 79) hx hb dX10_about_1 (by omega) (by omega) (by rw [e3]; rfl) (by decide) ?_
    refine lv_aload_n hx hb dX10_about_79 rfl (lv_at hl 0 rfl) ?_
    refine k_get hC hK hP iX10 0 2 wf_X10_237 rfl (by decide) rfl rfl dX10_about_80 ?_
    rw [← hQm]
    exact k_iret hC hr hlk hK hP hD hS () [0, 1, 2, 3] rfl (by decide +kernel) trivial (Nat.le_of_ble_eq_true rfl) (Nat.le_of_ble_eq_true rfl) dX10_about_83
  · refine lv_tableIn (tgt := 84) hx hb dX10_about_1 (by omega) (by omega) (by rw [e3]; rfl) (by decide) ?_
    refine lv_aload_n hx hb dX10_about_84 rfl (lv_at hl 0 rfl) ?_
    refine k_get hC hK hP iX10 0 46 wf_X10_252 rfl (by decide) rfl rfl dX10_about_85 ?_
    rw [← hQm]
    exact k_iret hC hr hlk hK hP hD hS () [0, 1, 2, 3] rfl (by decide +kernel) trivial (Nat.le_of_ble_eq_true rfl) (Nat.le_of_ble_eq_true rfl) dX10_about_88
theorem dX10_poundWide_0 : decode cX10_poundWide 0 = .ok (.aload_n 0, 1) := by decide +kernel
theorem dX10_poundWide_1 : decode cX10_poundWide 1 = .ok (.getfield 135, 3) := by decide +kernel
set_option maxRecDepth 100000 in
theorem wf_X10_135 : Cond.fieldLink RX10 135 "StoneTrustModel" "poundHigh" "[I" ∈ gw := gm (List.mem_of_getElem? (i := 1274) (by decide +kernel)) rfl
theorem dX10_poundWide_4 : decode cX10_poundWide 4 = .ok (.iconst 2, 1) := by decide +kernel
theorem dX10_poundWide_5 : decode cX10_poundWide 5 = .ok (.aload_n 0, 1) := by decide +kernel
theorem dX10_poundWide_6 : decode cX10_poundWide 6 = .ok (.getfield 240, 3) := by decide +kernel
theorem dX10_poundWide_9 : decode cX10_poundWide 9 = .ok (.imul, 1) := by decide +kernel
theorem dX10_poundWide_10 : decode cX10_poundWide 10 = .ok (.iload_n 1, 1) := by decide +kernel
theorem dX10_poundWide_11 : decode cX10_poundWide 11 = .ok (.iadd, 1) := by decide +kernel
theorem dX10_poundWide_12 : decode cX10_poundWide 12 = .ok (.iaload, 1) := by decide +kernel
theorem dX10_poundWide_13 : decode cX10_poundWide 13 = .ok (.aload_n 0, 1) := by decide +kernel
theorem dX10_poundWide_14 : decode cX10_poundWide 14 = .ok (.getfield 132, 3) := by decide +kernel
set_option maxRecDepth 100000 in
theorem wf_X10_132 : Cond.fieldLink RX10 132 "StoneTrustModel" "poundLow" "[I" ∈ gw := gm (List.mem_of_getElem? (i := 1273) (by decide +kernel)) rfl
theorem dX10_poundWide_17 : decode cX10_poundWide 17 = .ok (.iconst 2, 1) := by decide +kernel
theorem dX10_poundWide_18 : decode cX10_poundWide 18 = .ok (.aload_n 0, 1) := by decide +kernel
theorem dX10_poundWide_19 : decode cX10_poundWide 19 = .ok (.getfield 240, 3) := by decide +kernel
theorem dX10_poundWide_22 : decode cX10_poundWide 22 = .ok (.imul, 1) := by decide +kernel
theorem dX10_poundWide_23 : decode cX10_poundWide 23 = .ok (.iload_n 1, 1) := by decide +kernel
theorem dX10_poundWide_24 : decode cX10_poundWide 24 = .ok (.iadd, 1) := by decide +kernel
theorem dX10_poundWide_25 : decode cX10_poundWide 25 = .ok (.iaload, 1) := by decide +kernel
theorem dX10_poundWide_26 : decode cX10_poundWide 26 = .ok (.isub, 1) := by decide +kernel
theorem dX10_poundWide_27 : decode cX10_poundWide 27 = .ok (.iconst 1, 1) := by decide +kernel
theorem dX10_poundWide_28 : decode cX10_poundWide 28 = .ok (.iadd, 1) := by decide +kernel
theorem dX10_poundWide_29 : decode cX10_poundWide 29 = .ok (.ireturn, 1) := by decide +kernel
set_option maxHeartbeats 4000000 in
set_option maxRecDepth 100000 in
theorem c16_X10_poundWide (l : Launch) (G : va_G) (cI cJ cB cZ : ClassId) (a0 a1 a2 a3 a4 a5 a6 a7 a8 a9 a10 a11 a12 a13 a14 a15 a16 a17 a18 a19 a20 a21 a22 a23 a24 a25 a26 a27 a28 a29 a30 a31 a32 a33 a34 a35 a36 a37 a38 a39 a40 a41 a42 : Nat) (v_m_2 : Int32) (v_m_3 : Int32) (v_m_4 : Int32) (v_m_5 : Int32) (v_m_6 : Int32) (v_m_7 : Int32) (v_m_8 : Int32) (v_m_9 : Int32) (w_m_10 : Int64) (v_m_41 : Int32) (v_m_44 : Int32) (v_m_45 : Int32) (v_m_46 : Int32) (v_m_47 : Int32) (v_m_49 : Int32) (v_m_53 : Int32) (v_m_54 : Int32) (v_m_55 : Int32) (v_m_56 : Int32) (v_m_57 : Int32) (v_m_58 : Int32) (v_m_59 : Int32) (v_m_60 : Int32) (v_m_62 : Int32) (v_m_67 : Int32) (v_m_68 : Int32) (v_m_poundLow_0 : Int32) (v_m_poundLow_1 : Int32) (v_m_poundLow_2 : Int32) (v_m_poundLow_3 : Int32) (v_m_poundHigh_0 : Int32) (v_m_poundHigh_1 : Int32) (v_m_poundHigh_2 : Int32) (v_m_poundHigh_3 : Int32) (hv_0 : 0 ≤ v_m_2.toInt) (hv_1 : v_m_2.toInt ≤ 1300) (hv_2 : 0 ≤ v_m_3.toInt) (hv_3 : v_m_3.toInt ≤ 1300) (hv_4 : 0 ≤ v_m_4.toInt) (hv_5 : v_m_4.toInt ≤ 5) (hv_6 : 0 ≤ v_m_6.toInt) (hv_7 : v_m_6.toInt ≤ 1300) (hv_8 : 0 ≤ v_m_7.toInt) (hv_9 : v_m_7.toInt ≤ 1301) (hv_10 : 0 ≤ v_m_8.toInt) (hv_11 : v_m_8.toInt ≤ 5) (hv_12 : 0 ≤ v_m_9.toInt) (hv_13 : v_m_9.toInt ≤ 9999) (hv_14 : 0 ≤ v_m_41.toInt) (hv_15 : v_m_41.toInt ≤ 1) (hv_16 : 0 ≤ v_m_44.toInt) (hv_17 : v_m_44.toInt ≤ 30) (hv_18 : 0 ≤ v_m_47.toInt) (hv_19 : v_m_47.toInt ≤ 1) (hv_20 : 0 ≤ v_m_49.toInt) (hv_21 : v_m_49.toInt ≤ 46) (hv_22 : 0 ≤ v_m_53.toInt) (hv_23 : v_m_53.toInt ≤ 300000) (hv_24 : 0 ≤ v_m_55.toInt) (hv_25 : v_m_55.toInt ≤ 300109) (hv_26 : v_m_56.toInt ≤ 300000) (hv_27 : 0 ≤ v_m_57.toInt) (hv_28 : v_m_57.toInt ≤ 1) (hv_29 : 0 ≤ v_m_60.toInt) (hv_30 : v_m_60.toInt ≤ 1) (hv_31 : 1 ≤ v_m_poundLow_0.toInt) (hv_32 : v_m_poundLow_0.toInt ≤ 40) (hv_33 : 1 ≤ v_m_poundLow_1.toInt) (hv_34 : v_m_poundLow_1.toInt ≤ 40) (hv_35 : 0 ≤ v_m_poundLow_2.toInt) (hv_36 : v_m_poundLow_2.toInt ≤ 40) (hv_37 : 0 ≤ v_m_poundLow_3.toInt) (hv_38 : v_m_poundLow_3.toInt ≤ 40) (hv_39 : 1 ≤ v_m_poundHigh_0.toInt) (hv_40 : v_m_poundHigh_0.toInt ≤ 40) (hv_41 : 1 ≤ v_m_poundHigh_1.toInt) (hv_42 : v_m_poundHigh_1.toInt ≤ 40) (hv_43 : 0 ≤ v_m_poundHigh_2.toInt) (hv_44 : v_m_poundHigh_2.toInt ≤ 40) (hv_45 : 0 ≤ v_m_poundHigh_3.toInt) (hv_46 : v_m_poundHigh_3.toInt ≤ 40) (hv_47 : (v_m_poundLow_0.toInt ≤ v_m_poundHigh_0.toInt)) : Con l G (TY cI cJ cB cZ) yX10_poundWide cX10_poundWide 2 (some .int) ({ frames := 0, cells := 0, slots := 0, locals := 0 } : Room) [.ref a0, .int 0] [(a0, .inr (10, [.ref a1, .ref a2, .int v_m_2, .int v_m_3, .int v_m_4, .int v_m_5, .int v_m_6, .int v_m_7, .int v_m_8, .int v_m_9, .long w_m_10, .ref a3, .ref a4, .ref a5, .ref a6, .ref a7, .ref a8, .ref a9, .ref a10, .ref a11, .ref a12, .ref a13, .ref a14, .ref a15, .ref a16, .ref a17, .ref a18, .ref a19, .ref a20, .ref a21, .ref a22, .ref a23, .ref a24, .ref a25, .ref a26, .ref a27, .ref a28, .ref a29, .ref a30, .ref a31, .int 0, .int v_m_41, .ref a32, .ref a33, .int v_m_44, .int v_m_45, .int v_m_46, .int v_m_47, .ref a34, .int v_m_49, .ref a35, .ref a36, .ref a37, .int v_m_53, .int v_m_54, .int v_m_55, .int v_m_56, .int v_m_57, .int v_m_58, .int v_m_59, .int v_m_60, .ref a38, .int v_m_62, .ref a39, .ref a40, .ref a41, .ref a42, .int v_m_67, .int v_m_68])), (a10, .inl (cI, 4, .inl (ex4 v_m_poundLow_0 v_m_poundLow_1 v_m_poundLow_2 v_m_poundLow_3))), (a11, .inl (cI, 4, .inl (ex4 v_m_poundHigh_0 v_m_poundHigh_1 v_m_poundHigh_2 v_m_poundHigh_3)))] (QI G (TY cI cJ cB cZ) (fun (r : Int32) (u : Unit) => (1 ≤ r.toInt ∧ r.toInt ≤ 40 ∧ (r.toInt = v_m_poundHigh_0.toInt - v_m_poundLow_0.toInt + 1))) (fun u : Unit => [(a0, .inr (10, [.ref a1, .ref a2, .int v_m_2, .int v_m_3, .int v_m_4, .int v_m_5, .int v_m_6, .int v_m_7, .int v_m_8, .int v_m_9, .long w_m_10, .ref a3, .ref a4, .ref a5, .ref a6, .ref a7, .ref a8, .ref a9, .ref a10, .ref a11, .ref a12, .ref a13, .ref a14, .ref a15, .ref a16, .ref a17, .ref a18, .ref a19, .ref a20, .ref a21, .ref a22, .ref a23, .ref a24, .ref a25, .ref a26, .ref a27, .ref a28, .ref a29, .ref a30, .ref a31, .int 0, .int v_m_41, .ref a32, .ref a33, .int v_m_44, .int v_m_45, .int v_m_46, .int v_m_47, .ref a34, .int v_m_49, .ref a35, .ref a36, .ref a37, .int v_m_53, .int v_m_54, .int v_m_55, .int v_m_56, .int v_m_57, .int v_m_58, .int v_m_59, .int v_m_60, .ref a38, .int v_m_62, .ref a39, .ref a40, .ref a41, .ref a42, .int v_m_67, .int v_m_68])), (a10, .inl (cI, 4, .inl (ex4 v_m_poundLow_0 v_m_poundLow_1 v_m_poundLow_2 v_m_poundLow_3))), (a11, .inl (cI, 4, .inl (ex4 v_m_poundHigh_0 v_m_poundHigh_1 v_m_poundHigh_2 v_m_poundHigh_3)))])) := by
  refine k_met (by decide) (Nat.le_of_ble_eq_true rfl) ?_
  intro p e s m below meth c A ls hC hr hlk hnm hN hZ hK hA hP hD hS hl
  have hl : lv_has ls 2 [(0, .ref a0), (1, .int 0)] := hl
  generalize hQm : MQ below _ _ s _ _ A = Qm
  generalize (List.toArray _ : Array Value) = args at hC hQm ⊢
  obtain ⟨hx, hb, hml, hown, hts⟩ := id hC
  obtain ⟨H, hH⟩ : ∃ q, q = s.heap := ⟨_, rfl⟩
  obtain ⟨locs, hlo⟩ : ∃ q : List Loc, q = [] := ⟨_, rfl⟩
  have hP : va_P G cl [(a0, .inr (10, [.ref a1, .ref a2, .int v_m_2, .int v_m_3, .int v_m_4, .int v_m_5, .int v_m_6, .int v_m_7, .int v_m_8, .int v_m_9, .long w_m_10, .ref a3, .ref a4, .ref a5, .ref a6, .ref a7, .ref a8, .ref a9, .ref a10, .ref a11, .ref a12, .ref a13, .ref a14, .ref a15, .ref a16, .ref a17, .ref a18, .ref a19, .ref a20, .ref a21, .ref a22, .ref a23, .ref a24, .ref a25, .ref a26, .ref a27, .ref a28, .ref a29, .ref a30, .ref a31, .int 0, .int v_m_41, .ref a32, .ref a33, .int v_m_44, .int v_m_45, .int v_m_46, .int v_m_47, .ref a34, .int v_m_49, .ref a35, .ref a36, .ref a37, .int v_m_53, .int v_m_54, .int v_m_55, .int v_m_56, .int v_m_57, .int v_m_58, .int v_m_59, .int v_m_60, .ref a38, .int v_m_62, .ref a39, .ref a40, .ref a41, .ref a42, .int v_m_67, .int v_m_68])), (a10, .inl (cI, 4, .inl (ex4 v_m_poundLow_0 v_m_poundLow_1 v_m_poundLow_2 v_m_poundLow_3))), (a11, .inl (cI, 4, .inl (ex4 v_m_poundHigh_0 v_m_poundHigh_1 v_m_poundHigh_2 v_m_poundHigh_3)))] H := by rw [hH]; exact hP
  have hS : va_S A s.heap H locs := by rw [hH, hlo]; exact hS
  rw [← hlo]
  rw [← hH]
  refine lv_aload_n hx hb dX10_poundWide_0 rfl (lv_at hl 0 rfl) ?_
  refine k_get hC hK hP iX10 0 19 wf_X10_135 rfl (by decide) rfl rfl dX10_poundWide_1 ?_
  refine lv_iconst (v := 2) hx hb dX10_poundWide_4 (by decide) ?_
  refine lv_aload_n hx hb dX10_poundWide_5 rfl (lv_at hl 0 rfl) ?_
  refine k_get hC hK hP iX10 0 40 wf_X10_240 rfl (by decide) rfl rfl dX10_poundWide_6 ?_
  refine lv_imul hx hb dX10_poundWide_9 ?_
  refine k_i 0 (by decide +kernel) ?_
  refine lv_iload_n hx hb dX10_poundWide_10 rfl (lv_at hl 1 rfl) ?_
  refine lv_iadd hx hb dX10_poundWide_11 ?_
  refine k_i 0 (by decide +kernel) ?_
  refine k_iald (v := v_m_poundHigh_0) hC hK hP 2 0 rfl (by decide +kernel) (by decide) rfl dX10_poundWide_12 ?_
  refine lv_aload_n hx hb dX10_poundWide_13 rfl (lv_at hl 0 rfl) ?_
  refine k_get hC hK hP iX10 0 18 wf_X10_132 rfl (by decide) rfl rfl dX10_poundWide_14 ?_
  refine lv_iconst (v := 2) hx hb dX10_poundWide_17 (by decide) ?_
  refine lv_aload_n hx hb dX10_poundWide_18 rfl (lv_at hl 0 rfl) ?_
  refine k_get hC hK hP iX10 0 40 wf_X10_240 rfl (by decide) rfl rfl dX10_poundWide_19 ?_
  refine lv_imul hx hb dX10_poundWide_22 ?_
  refine k_i 0 (by decide +kernel) ?_
  refine lv_iload_n hx hb dX10_poundWide_23 rfl (lv_at hl 1 rfl) ?_
  refine lv_iadd hx hb dX10_poundWide_24 ?_
  refine k_i 0 (by decide +kernel) ?_
  refine k_iald (v := v_m_poundLow_0) hC hK hP 1 0 rfl (by decide +kernel) (by decide) rfl dX10_poundWide_25 ?_
  refine lv_isub hx hb dX10_poundWide_26 ?_
  refine t_i (fun q => q.toInt = v_m_poundHigh_0.toInt - v_m_poundLow_0.toInt) (sub_i (by show (-2147483648 : Int) ≤ v_m_poundHigh_0.toInt - v_m_poundLow_0.toInt; omega) (by show v_m_poundHigh_0.toInt - v_m_poundLow_0.toInt ≤ (2147483647 : Int); omega)) (fun z5 tz5 => ?_)
  refine lv_iconst (v := 1) hx hb dX10_poundWide_27 (by decide) ?_
  refine lv_iadd hx hb dX10_poundWide_28 ?_
  refine t_i (fun q => q.toInt = z5.toInt + 1) (add_i (by show (-2147483648 : Int) ≤ z5.toInt + 1; omega) (by show z5.toInt + 1 ≤ (2147483647 : Int); omega)) (fun z6 tz6 => ?_)
  have as7 : 1 ≤ z6.toInt ∧ z6.toInt ≤ 41 := by omega
  rw [← hQm]
  exact k_iret hC hr hlk hK hP hD hS () [0, 1, 2] rfl (by decide +kernel) (show 1 ≤ z6.toInt ∧ z6.toInt ≤ 40 ∧ (z6.toInt = v_m_poundHigh_0.toInt - v_m_poundLow_0.toInt + 1) from by omega) (Nat.le_of_ble_eq_true rfl) (Nat.le_of_ble_eq_true rfl) dX10_poundWide_29
set_option maxHeartbeats 4000000 in
set_option maxRecDepth 100000 in
theorem c17_X10_poundWide (l : Launch) (G : va_G) (cI cJ cB cZ : ClassId) (a0 a1 a2 a3 a4 a5 a6 a7 a8 a9 a10 a11 a12 a13 a14 a15 a16 a17 a18 a19 a20 a21 a22 a23 a24 a25 a26 a27 a28 a29 a30 a31 a32 a33 a34 a35 a36 a37 a38 a39 a40 a41 a42 : Nat) (v_m_2 : Int32) (v_m_3 : Int32) (v_m_4 : Int32) (v_m_5 : Int32) (v_m_6 : Int32) (v_m_7 : Int32) (v_m_8 : Int32) (v_m_9 : Int32) (w_m_10 : Int64) (v_m_41 : Int32) (v_m_44 : Int32) (v_m_45 : Int32) (v_m_46 : Int32) (v_m_47 : Int32) (v_m_49 : Int32) (v_m_53 : Int32) (v_m_54 : Int32) (v_m_55 : Int32) (v_m_56 : Int32) (v_m_57 : Int32) (v_m_58 : Int32) (v_m_59 : Int32) (v_m_60 : Int32) (v_m_62 : Int32) (v_m_67 : Int32) (v_m_68 : Int32) (v_m_poundLow_0 : Int32) (v_m_poundLow_1 : Int32) (v_m_poundLow_2 : Int32) (v_m_poundLow_3 : Int32) (v_m_poundHigh_0 : Int32) (v_m_poundHigh_1 : Int32) (v_m_poundHigh_2 : Int32) (v_m_poundHigh_3 : Int32) (hv_0 : 0 ≤ v_m_2.toInt) (hv_1 : v_m_2.toInt ≤ 1300) (hv_2 : 0 ≤ v_m_3.toInt) (hv_3 : v_m_3.toInt ≤ 1300) (hv_4 : 0 ≤ v_m_4.toInt) (hv_5 : v_m_4.toInt ≤ 5) (hv_6 : 0 ≤ v_m_6.toInt) (hv_7 : v_m_6.toInt ≤ 1300) (hv_8 : 0 ≤ v_m_7.toInt) (hv_9 : v_m_7.toInt ≤ 1301) (hv_10 : 0 ≤ v_m_8.toInt) (hv_11 : v_m_8.toInt ≤ 5) (hv_12 : 0 ≤ v_m_9.toInt) (hv_13 : v_m_9.toInt ≤ 9999) (hv_14 : 0 ≤ v_m_41.toInt) (hv_15 : v_m_41.toInt ≤ 1) (hv_16 : 0 ≤ v_m_44.toInt) (hv_17 : v_m_44.toInt ≤ 30) (hv_18 : 0 ≤ v_m_47.toInt) (hv_19 : v_m_47.toInt ≤ 1) (hv_20 : 0 ≤ v_m_49.toInt) (hv_21 : v_m_49.toInt ≤ 46) (hv_22 : 0 ≤ v_m_53.toInt) (hv_23 : v_m_53.toInt ≤ 300000) (hv_24 : 0 ≤ v_m_55.toInt) (hv_25 : v_m_55.toInt ≤ 300109) (hv_26 : v_m_56.toInt ≤ 300000) (hv_27 : 0 ≤ v_m_57.toInt) (hv_28 : v_m_57.toInt ≤ 1) (hv_29 : 0 ≤ v_m_60.toInt) (hv_30 : v_m_60.toInt ≤ 1) (hv_31 : 1 ≤ v_m_poundLow_0.toInt) (hv_32 : v_m_poundLow_0.toInt ≤ 40) (hv_33 : 1 ≤ v_m_poundLow_1.toInt) (hv_34 : v_m_poundLow_1.toInt ≤ 40) (hv_35 : 0 ≤ v_m_poundLow_2.toInt) (hv_36 : v_m_poundLow_2.toInt ≤ 40) (hv_37 : 0 ≤ v_m_poundLow_3.toInt) (hv_38 : v_m_poundLow_3.toInt ≤ 40) (hv_39 : 1 ≤ v_m_poundHigh_0.toInt) (hv_40 : v_m_poundHigh_0.toInt ≤ 40) (hv_41 : 1 ≤ v_m_poundHigh_1.toInt) (hv_42 : v_m_poundHigh_1.toInt ≤ 40) (hv_43 : 0 ≤ v_m_poundHigh_2.toInt) (hv_44 : v_m_poundHigh_2.toInt ≤ 40) (hv_45 : 0 ≤ v_m_poundHigh_3.toInt) (hv_46 : v_m_poundHigh_3.toInt ≤ 40) (hv_47 : (v_m_poundLow_1.toInt ≤ v_m_poundHigh_1.toInt)) : Con l G (TY cI cJ cB cZ) yX10_poundWide cX10_poundWide 2 (some .int) ({ frames := 0, cells := 0, slots := 0, locals := 0 } : Room) [.ref a0, .int 1] [(a0, .inr (10, [.ref a1, .ref a2, .int v_m_2, .int v_m_3, .int v_m_4, .int v_m_5, .int v_m_6, .int v_m_7, .int v_m_8, .int v_m_9, .long w_m_10, .ref a3, .ref a4, .ref a5, .ref a6, .ref a7, .ref a8, .ref a9, .ref a10, .ref a11, .ref a12, .ref a13, .ref a14, .ref a15, .ref a16, .ref a17, .ref a18, .ref a19, .ref a20, .ref a21, .ref a22, .ref a23, .ref a24, .ref a25, .ref a26, .ref a27, .ref a28, .ref a29, .ref a30, .ref a31, .int 0, .int v_m_41, .ref a32, .ref a33, .int v_m_44, .int v_m_45, .int v_m_46, .int v_m_47, .ref a34, .int v_m_49, .ref a35, .ref a36, .ref a37, .int v_m_53, .int v_m_54, .int v_m_55, .int v_m_56, .int v_m_57, .int v_m_58, .int v_m_59, .int v_m_60, .ref a38, .int v_m_62, .ref a39, .ref a40, .ref a41, .ref a42, .int v_m_67, .int v_m_68])), (a10, .inl (cI, 4, .inl (ex4 v_m_poundLow_0 v_m_poundLow_1 v_m_poundLow_2 v_m_poundLow_3))), (a11, .inl (cI, 4, .inl (ex4 v_m_poundHigh_0 v_m_poundHigh_1 v_m_poundHigh_2 v_m_poundHigh_3)))] (QI G (TY cI cJ cB cZ) (fun (r : Int32) (u : Unit) => (1 ≤ r.toInt ∧ r.toInt ≤ 40 ∧ (r.toInt = v_m_poundHigh_1.toInt - v_m_poundLow_1.toInt + 1))) (fun u : Unit => [(a0, .inr (10, [.ref a1, .ref a2, .int v_m_2, .int v_m_3, .int v_m_4, .int v_m_5, .int v_m_6, .int v_m_7, .int v_m_8, .int v_m_9, .long w_m_10, .ref a3, .ref a4, .ref a5, .ref a6, .ref a7, .ref a8, .ref a9, .ref a10, .ref a11, .ref a12, .ref a13, .ref a14, .ref a15, .ref a16, .ref a17, .ref a18, .ref a19, .ref a20, .ref a21, .ref a22, .ref a23, .ref a24, .ref a25, .ref a26, .ref a27, .ref a28, .ref a29, .ref a30, .ref a31, .int 0, .int v_m_41, .ref a32, .ref a33, .int v_m_44, .int v_m_45, .int v_m_46, .int v_m_47, .ref a34, .int v_m_49, .ref a35, .ref a36, .ref a37, .int v_m_53, .int v_m_54, .int v_m_55, .int v_m_56, .int v_m_57, .int v_m_58, .int v_m_59, .int v_m_60, .ref a38, .int v_m_62, .ref a39, .ref a40, .ref a41, .ref a42, .int v_m_67, .int v_m_68])), (a10, .inl (cI, 4, .inl (ex4 v_m_poundLow_0 v_m_poundLow_1 v_m_poundLow_2 v_m_poundLow_3))), (a11, .inl (cI, 4, .inl (ex4 v_m_poundHigh_0 v_m_poundHigh_1 v_m_poundHigh_2 v_m_poundHigh_3)))])) := by
  refine k_met (by decide) (Nat.le_of_ble_eq_true rfl) ?_
  intro p e s m below meth c A ls hC hr hlk hnm hN hZ hK hA hP hD hS hl
  have hl : lv_has ls 2 [(0, .ref a0), (1, .int 1)] := hl
  generalize hQm : MQ below _ _ s _ _ A = Qm
  generalize (List.toArray _ : Array Value) = args at hC hQm ⊢
  obtain ⟨hx, hb, hml, hown, hts⟩ := id hC
  obtain ⟨H, hH⟩ : ∃ q, q = s.heap := ⟨_, rfl⟩
  obtain ⟨locs, hlo⟩ : ∃ q : List Loc, q = [] := ⟨_, rfl⟩
  have hP : va_P G cl [(a0, .inr (10, [.ref a1, .ref a2, .int v_m_2, .int v_m_3, .int v_m_4, .int v_m_5, .int v_m_6, .int v_m_7, .int v_m_8, .int v_m_9, .long w_m_10, .ref a3, .ref a4, .ref a5, .ref a6, .ref a7, .ref a8, .ref a9, .ref a10, .ref a11, .ref a12, .ref a13, .ref a14, .ref a15, .ref a16, .ref a17, .ref a18, .ref a19, .ref a20, .ref a21, .ref a22, .ref a23, .ref a24, .ref a25, .ref a26, .ref a27, .ref a28, .ref a29, .ref a30, .ref a31, .int 0, .int v_m_41, .ref a32, .ref a33, .int v_m_44, .int v_m_45, .int v_m_46, .int v_m_47, .ref a34, .int v_m_49, .ref a35, .ref a36, .ref a37, .int v_m_53, .int v_m_54, .int v_m_55, .int v_m_56, .int v_m_57, .int v_m_58, .int v_m_59, .int v_m_60, .ref a38, .int v_m_62, .ref a39, .ref a40, .ref a41, .ref a42, .int v_m_67, .int v_m_68])), (a10, .inl (cI, 4, .inl (ex4 v_m_poundLow_0 v_m_poundLow_1 v_m_poundLow_2 v_m_poundLow_3))), (a11, .inl (cI, 4, .inl (ex4 v_m_poundHigh_0 v_m_poundHigh_1 v_m_poundHigh_2 v_m_poundHigh_3)))] H := by rw [hH]; exact hP
  have hS : va_S A s.heap H locs := by rw [hH, hlo]; exact hS
  rw [← hlo]
  rw [← hH]
  refine lv_aload_n hx hb dX10_poundWide_0 rfl (lv_at hl 0 rfl) ?_
  refine k_get hC hK hP iX10 0 19 wf_X10_135 rfl (by decide) rfl rfl dX10_poundWide_1 ?_
  refine lv_iconst (v := 2) hx hb dX10_poundWide_4 (by decide) ?_
  refine lv_aload_n hx hb dX10_poundWide_5 rfl (lv_at hl 0 rfl) ?_
  refine k_get hC hK hP iX10 0 40 wf_X10_240 rfl (by decide) rfl rfl dX10_poundWide_6 ?_
  refine lv_imul hx hb dX10_poundWide_9 ?_
  refine k_i 0 (by decide +kernel) ?_
  refine lv_iload_n hx hb dX10_poundWide_10 rfl (lv_at hl 1 rfl) ?_
  refine lv_iadd hx hb dX10_poundWide_11 ?_
  refine k_i 1 (by decide +kernel) ?_
  refine k_iald (v := v_m_poundHigh_1) hC hK hP 2 1 rfl (by decide +kernel) (by decide) rfl dX10_poundWide_12 ?_
  refine lv_aload_n hx hb dX10_poundWide_13 rfl (lv_at hl 0 rfl) ?_
  refine k_get hC hK hP iX10 0 18 wf_X10_132 rfl (by decide) rfl rfl dX10_poundWide_14 ?_
  refine lv_iconst (v := 2) hx hb dX10_poundWide_17 (by decide) ?_
  refine lv_aload_n hx hb dX10_poundWide_18 rfl (lv_at hl 0 rfl) ?_
  refine k_get hC hK hP iX10 0 40 wf_X10_240 rfl (by decide) rfl rfl dX10_poundWide_19 ?_
  refine lv_imul hx hb dX10_poundWide_22 ?_
  refine k_i 0 (by decide +kernel) ?_
  refine lv_iload_n hx hb dX10_poundWide_23 rfl (lv_at hl 1 rfl) ?_
  refine lv_iadd hx hb dX10_poundWide_24 ?_
  refine k_i 1 (by decide +kernel) ?_
  refine k_iald (v := v_m_poundLow_1) hC hK hP 1 1 rfl (by decide +kernel) (by decide) rfl dX10_poundWide_25 ?_
  refine lv_isub hx hb dX10_poundWide_26 ?_
  refine t_i (fun q => q.toInt = v_m_poundHigh_1.toInt - v_m_poundLow_1.toInt) (sub_i (by show (-2147483648 : Int) ≤ v_m_poundHigh_1.toInt - v_m_poundLow_1.toInt; omega) (by show v_m_poundHigh_1.toInt - v_m_poundLow_1.toInt ≤ (2147483647 : Int); omega)) (fun z5 tz5 => ?_)
  refine lv_iconst (v := 1) hx hb dX10_poundWide_27 (by decide) ?_
  refine lv_iadd hx hb dX10_poundWide_28 ?_
  refine t_i (fun q => q.toInt = z5.toInt + 1) (add_i (by show (-2147483648 : Int) ≤ z5.toInt + 1; omega) (by show z5.toInt + 1 ≤ (2147483647 : Int); omega)) (fun z6 tz6 => ?_)
  have as7 : 1 ≤ z6.toInt ∧ z6.toInt ≤ 41 := by omega
  rw [← hQm]
  exact k_iret hC hr hlk hK hP hD hS () [0, 1, 2] rfl (by decide +kernel) (show 1 ≤ z6.toInt ∧ z6.toInt ≤ 40 ∧ (z6.toInt = v_m_poundHigh_1.toInt - v_m_poundLow_1.toInt + 1) from by omega) (Nat.le_of_ble_eq_true rfl) (Nat.le_of_ble_eq_true rfl) dX10_poundWide_29
theorem dX10_at0_0 : decode cX10_at0 0 = .ok (.bipush 6, 2) := by decide +kernel
theorem dX10_at0_2 : decode cX10_at0 2 = .ok (.aload_n 0, 1) := by decide +kernel
theorem dX10_at0_3 : decode cX10_at0 3 = .ok (.getfield 240, 3) := by decide +kernel
theorem dX10_at0_6 : decode cX10_at0 6 = .ok (.imul, 1) := by decide +kernel
theorem dX10_at0_7 : decode cX10_at0 7 = .ok (.iload_n 1, 1) := by decide +kernel
theorem dX10_at0_8 : decode cX10_at0 8 = .ok (.iadd, 1) := by decide +kernel
theorem dX10_at0_9 : decode cX10_at0 9 = .ok (.ireturn, 1) := by decide +kernel
set_option maxHeartbeats 4000000 in
set_option maxRecDepth 100000 in
theorem c18_X10_at0 (l : Launch) (G : va_G) (cI cJ cB cZ : ClassId) (a0 a1 a2 a3 a4 a5 a6 a7 a8 a9 a10 a11 a12 a13 a14 a15 a16 a17 a18 a19 a20 a21 a22 a23 a24 a25 a26 a27 a28 a29 a30 a31 a32 a33 a34 a35 a36 a37 a38 a39 a40 a41 a42 : Nat) (b1 : Int32) (v_m_2 : Int32) (v_m_3 : Int32) (v_m_4 : Int32) (v_m_5 : Int32) (v_m_6 : Int32) (v_m_7 : Int32) (v_m_8 : Int32) (v_m_9 : Int32) (w_m_10 : Int64) (v_m_41 : Int32) (v_m_44 : Int32) (v_m_45 : Int32) (v_m_46 : Int32) (v_m_47 : Int32) (v_m_49 : Int32) (v_m_53 : Int32) (v_m_54 : Int32) (v_m_55 : Int32) (v_m_56 : Int32) (v_m_57 : Int32) (v_m_58 : Int32) (v_m_59 : Int32) (v_m_60 : Int32) (v_m_62 : Int32) (v_m_67 : Int32) (v_m_68 : Int32) (hv_0 : 0 ≤ b1.toInt) (hv_1 : b1.toInt ≤ 5) (hv_2 : 0 ≤ v_m_2.toInt) (hv_3 : v_m_2.toInt ≤ 1300) (hv_4 : 0 ≤ v_m_3.toInt) (hv_5 : v_m_3.toInt ≤ 1300) (hv_6 : 0 ≤ v_m_4.toInt) (hv_7 : v_m_4.toInt ≤ 5) (hv_8 : 0 ≤ v_m_6.toInt) (hv_9 : v_m_6.toInt ≤ 1300) (hv_10 : 0 ≤ v_m_7.toInt) (hv_11 : v_m_7.toInt ≤ 1301) (hv_12 : 0 ≤ v_m_8.toInt) (hv_13 : v_m_8.toInt ≤ 5) (hv_14 : 0 ≤ v_m_9.toInt) (hv_15 : v_m_9.toInt ≤ 9999) (hv_16 : 0 ≤ v_m_41.toInt) (hv_17 : v_m_41.toInt ≤ 1) (hv_18 : 0 ≤ v_m_44.toInt) (hv_19 : v_m_44.toInt ≤ 30) (hv_20 : 0 ≤ v_m_47.toInt) (hv_21 : v_m_47.toInt ≤ 1) (hv_22 : 0 ≤ v_m_49.toInt) (hv_23 : v_m_49.toInt ≤ 46) (hv_24 : 0 ≤ v_m_53.toInt) (hv_25 : v_m_53.toInt ≤ 300000) (hv_26 : 0 ≤ v_m_55.toInt) (hv_27 : v_m_55.toInt ≤ 300109) (hv_28 : v_m_56.toInt ≤ 300000) (hv_29 : 0 ≤ v_m_57.toInt) (hv_30 : v_m_57.toInt ≤ 1) (hv_31 : 0 ≤ v_m_60.toInt) (hv_32 : v_m_60.toInt ≤ 1) : Con l G (TY cI cJ cB cZ) yX10_at0 cX10_at0 2 (some .int) ({ frames := 0, cells := 0, slots := 0, locals := 0 } : Room) [.ref a0, .int b1] [(a0, .inr (10, [.ref a1, .ref a2, .int v_m_2, .int v_m_3, .int v_m_4, .int v_m_5, .int v_m_6, .int v_m_7, .int v_m_8, .int v_m_9, .long w_m_10, .ref a3, .ref a4, .ref a5, .ref a6, .ref a7, .ref a8, .ref a9, .ref a10, .ref a11, .ref a12, .ref a13, .ref a14, .ref a15, .ref a16, .ref a17, .ref a18, .ref a19, .ref a20, .ref a21, .ref a22, .ref a23, .ref a24, .ref a25, .ref a26, .ref a27, .ref a28, .ref a29, .ref a30, .ref a31, .int 0, .int v_m_41, .ref a32, .ref a33, .int v_m_44, .int v_m_45, .int v_m_46, .int v_m_47, .ref a34, .int v_m_49, .ref a35, .ref a36, .ref a37, .int v_m_53, .int v_m_54, .int v_m_55, .int v_m_56, .int v_m_57, .int v_m_58, .int v_m_59, .int v_m_60, .ref a38, .int v_m_62, .ref a39, .ref a40, .ref a41, .ref a42, .int v_m_67, .int v_m_68]))] (QI G (TY cI cJ cB cZ) (fun (r : Int32) (u : Unit) => (0 ≤ r.toInt ∧ r.toInt ≤ 5 ∧ (r.toInt = 6 * 0 + b1.toInt))) (fun u : Unit => [(a0, .inr (10, [.ref a1, .ref a2, .int v_m_2, .int v_m_3, .int v_m_4, .int v_m_5, .int v_m_6, .int v_m_7, .int v_m_8, .int v_m_9, .long w_m_10, .ref a3, .ref a4, .ref a5, .ref a6, .ref a7, .ref a8, .ref a9, .ref a10, .ref a11, .ref a12, .ref a13, .ref a14, .ref a15, .ref a16, .ref a17, .ref a18, .ref a19, .ref a20, .ref a21, .ref a22, .ref a23, .ref a24, .ref a25, .ref a26, .ref a27, .ref a28, .ref a29, .ref a30, .ref a31, .int 0, .int v_m_41, .ref a32, .ref a33, .int v_m_44, .int v_m_45, .int v_m_46, .int v_m_47, .ref a34, .int v_m_49, .ref a35, .ref a36, .ref a37, .int v_m_53, .int v_m_54, .int v_m_55, .int v_m_56, .int v_m_57, .int v_m_58, .int v_m_59, .int v_m_60, .ref a38, .int v_m_62, .ref a39, .ref a40, .ref a41, .ref a42, .int v_m_67, .int v_m_68]))])) := by
  refine k_met (by decide) (Nat.le_of_ble_eq_true rfl) ?_
  intro p e s m below meth c A ls hC hr hlk hnm hN hZ hK hA hP hD hS hl
  have hl : lv_has ls 2 [(0, .ref a0), (1, .int b1)] := hl
  generalize hQm : MQ below _ _ s _ _ A = Qm
  generalize (List.toArray _ : Array Value) = args at hC hQm ⊢
  obtain ⟨hx, hb, hml, hown, hts⟩ := id hC
  obtain ⟨H, hH⟩ : ∃ q, q = s.heap := ⟨_, rfl⟩
  obtain ⟨locs, hlo⟩ : ∃ q : List Loc, q = [] := ⟨_, rfl⟩
  have hP : va_P G cl [(a0, .inr (10, [.ref a1, .ref a2, .int v_m_2, .int v_m_3, .int v_m_4, .int v_m_5, .int v_m_6, .int v_m_7, .int v_m_8, .int v_m_9, .long w_m_10, .ref a3, .ref a4, .ref a5, .ref a6, .ref a7, .ref a8, .ref a9, .ref a10, .ref a11, .ref a12, .ref a13, .ref a14, .ref a15, .ref a16, .ref a17, .ref a18, .ref a19, .ref a20, .ref a21, .ref a22, .ref a23, .ref a24, .ref a25, .ref a26, .ref a27, .ref a28, .ref a29, .ref a30, .ref a31, .int 0, .int v_m_41, .ref a32, .ref a33, .int v_m_44, .int v_m_45, .int v_m_46, .int v_m_47, .ref a34, .int v_m_49, .ref a35, .ref a36, .ref a37, .int v_m_53, .int v_m_54, .int v_m_55, .int v_m_56, .int v_m_57, .int v_m_58, .int v_m_59, .int v_m_60, .ref a38, .int v_m_62, .ref a39, .ref a40, .ref a41, .ref a42, .int v_m_67, .int v_m_68]))] H := by rw [hH]; exact hP
  have hS : va_S A s.heap H locs := by rw [hH, hlo]; exact hS
  rw [← hlo]
  rw [← hH]
  refine lv_bipush (v := 6) hx hb dX10_at0_0 (by decide) ?_
  refine lv_aload_n hx hb dX10_at0_2 rfl (lv_at hl 0 rfl) ?_
  refine k_get hC hK hP iX10 0 40 wf_X10_240 rfl (by decide) rfl rfl dX10_at0_3 ?_
  refine lv_imul hx hb dX10_at0_6 ?_
  refine k_i 0 (by decide +kernel) ?_
  refine lv_iload_n hx hb dX10_at0_7 rfl (lv_at hl 1 rfl) ?_
  refine lv_iadd hx hb dX10_at0_8 ?_
  refine t_i (fun q => q.toInt = 0 + b1.toInt) (add_i (by show (-2147483648 : Int) ≤ 0 + b1.toInt; omega) (by show 0 + b1.toInt ≤ (2147483647 : Int); omega)) (fun z2 tz2 => ?_)
  rw [← hQm]
  exact k_iret hC hr hlk hK hP hD hS () [0] rfl (by decide +kernel) (show 0 ≤ z2.toInt ∧ z2.toInt ≤ 5 ∧ (z2.toInt = 6 * 0 + b1.toInt) from by omega) (Nat.le_of_ble_eq_true rfl) (Nat.le_of_ble_eq_true rfl) dX10_at0_9
theorem dX10_wide_0 : decode cX10_wide 0 = .ok (.iconst 2, 1) := by decide +kernel
theorem dX10_wide_1 : decode cX10_wide 1 = .ok (.aload_n 0, 1) := by decide +kernel
theorem dX10_wide_2 : decode cX10_wide 2 = .ok (.getfield 147, 3) := by decide +kernel
set_option maxRecDepth 100000 in
theorem wf_X10_147 : Cond.fieldLink RX10 147 "StoneTrustModel" "off" "[I" ∈ gw := gm (List.mem_of_getElem? (i := 1278) (by decide +kernel)) rfl
theorem dX10_wide_5 : decode cX10_wide 5 = .ok (.aload_n 0, 1) := by decide +kernel
theorem dX10_wide_6 : decode cX10_wide 6 = .ok (.iload_n 1, 1) := by decide +kernel
theorem dX10_wide_7 : decode cX10_wide 7 = .ok (.invokevirtual 329, 3) := by decide +kernel
set_option maxRecDepth 100000 in
theorem wm_X10_329 : Cond.methodLink RX10 329 yX10_at0 ∈ gw := gm (List.mem_of_getElem? (i := 1631) (by decide +kernel)) rfl
set_option maxRecDepth 100000 in
theorem mi_X10_at0 : MI yX10_at0 cX10_at0 2 (some .int) 1 := ⟨gm (List.mem_of_getElem? (i := 1634) rfl) rfl, gm (List.mem_of_getElem? (i := 124) (by decide +kernel)) rfl, by decide, by decide, by decide +kernel⟩
set_option maxRecDepth 100000 in
theorem in_X10_at0 : Cond.instanceMethod yX10_at0 ∈ gw := gm (List.mem_of_getElem? (i := 1633) (by decide +kernel)) rfl
set_option maxRecDepth 100000 in
theorem se_X10_at0 : Cond.selects yX10_at0.cls yX10_at0 yX10_at0 ∈ gw := gm (List.mem_of_getElem? (i := 80) (by decide +kernel)) rfl
theorem dX10_wide_10 : decode cX10_wide 10 = .ok (.iaload, 1) := by decide +kernel
theorem dX10_wide_11 : decode cX10_wide 11 = .ok (.imul, 1) := by decide +kernel
theorem dX10_wide_12 : decode cX10_wide 12 = .ok (.iconst 1, 1) := by decide +kernel
theorem dX10_wide_13 : decode cX10_wide 13 = .ok (.iadd, 1) := by decide +kernel
theorem dX10_wide_14 : decode cX10_wide 14 = .ok (.ireturn, 1) := by decide +kernel
set_option maxHeartbeats 4000000 in
set_option maxRecDepth 100000 in
theorem c19_X10_wide (l : Launch) (G : va_G) (cI cJ cB cZ : ClassId) (a0 a1 a2 a3 a4 a5 a6 a7 a8 a9 a10 a11 a12 a13 a14 a15 a16 a17 a18 a19 a20 a21 a22 a23 a24 a25 a26 a27 a28 a29 a30 a31 a32 a33 a34 a35 a36 a37 a38 a39 a40 a41 a42 : Nat) (b1 : Int32) (v_m_2 : Int32) (v_m_3 : Int32) (v_m_4 : Int32) (v_m_5 : Int32) (v_m_6 : Int32) (v_m_7 : Int32) (v_m_8 : Int32) (v_m_9 : Int32) (w_m_10 : Int64) (v_m_41 : Int32) (v_m_44 : Int32) (v_m_45 : Int32) (v_m_46 : Int32) (v_m_47 : Int32) (v_m_49 : Int32) (v_m_53 : Int32) (v_m_54 : Int32) (v_m_55 : Int32) (v_m_56 : Int32) (v_m_57 : Int32) (v_m_58 : Int32) (v_m_59 : Int32) (v_m_60 : Int32) (v_m_62 : Int32) (v_m_67 : Int32) (v_m_68 : Int32) (g_m_off : Nat → Int32) (hv_0 : 0 ≤ b1.toInt) (hv_1 : b1.toInt ≤ 5) (hv_2 : 0 ≤ v_m_2.toInt) (hv_3 : v_m_2.toInt ≤ 1300) (hv_4 : 0 ≤ v_m_3.toInt) (hv_5 : v_m_3.toInt ≤ 1300) (hv_6 : 0 ≤ v_m_4.toInt) (hv_7 : v_m_4.toInt ≤ 5) (hv_8 : 0 ≤ v_m_6.toInt) (hv_9 : v_m_6.toInt ≤ 1300) (hv_10 : 0 ≤ v_m_7.toInt) (hv_11 : v_m_7.toInt ≤ 1301) (hv_12 : 0 ≤ v_m_8.toInt) (hv_13 : v_m_8.toInt ≤ 5) (hv_14 : 0 ≤ v_m_9.toInt) (hv_15 : v_m_9.toInt ≤ 9999) (hv_16 : 0 ≤ v_m_41.toInt) (hv_17 : v_m_41.toInt ≤ 1) (hv_18 : 0 ≤ v_m_44.toInt) (hv_19 : v_m_44.toInt ≤ 30) (hv_20 : 0 ≤ v_m_47.toInt) (hv_21 : v_m_47.toInt ≤ 1) (hv_22 : 0 ≤ v_m_49.toInt) (hv_23 : v_m_49.toInt ≤ 46) (hv_24 : 0 ≤ v_m_53.toInt) (hv_25 : v_m_53.toInt ≤ 300000) (hv_26 : 0 ≤ v_m_55.toInt) (hv_27 : v_m_55.toInt ≤ 300109) (hv_28 : v_m_56.toInt ≤ 300000) (hv_29 : 0 ≤ v_m_57.toInt) (hv_30 : v_m_57.toInt ≤ 1) (hv_31 : 0 ≤ v_m_60.toInt) (hv_32 : v_m_60.toInt ≤ 1) (hT_g_m_off : TA 0 4 g_m_off) : Con l G (TY cI cJ cB cZ) yX10_wide cX10_wide 2 (some .int) ({ frames := 1, cells := 0, slots := 0, locals := 21 } : Room) [.ref a0, .int b1] [(a0, .inr (10, [.ref a1, .ref a2, .int v_m_2, .int v_m_3, .int v_m_4, .int v_m_5, .int v_m_6, .int v_m_7, .int v_m_8, .int v_m_9, .long w_m_10, .ref a3, .ref a4, .ref a5, .ref a6, .ref a7, .ref a8, .ref a9, .ref a10, .ref a11, .ref a12, .ref a13, .ref a14, .ref a15, .ref a16, .ref a17, .ref a18, .ref a19, .ref a20, .ref a21, .ref a22, .ref a23, .ref a24, .ref a25, .ref a26, .ref a27, .ref a28, .ref a29, .ref a30, .ref a31, .int 0, .int v_m_41, .ref a32, .ref a33, .int v_m_44, .int v_m_45, .int v_m_46, .int v_m_47, .ref a34, .int v_m_49, .ref a35, .ref a36, .ref a37, .int v_m_53, .int v_m_54, .int v_m_55, .int v_m_56, .int v_m_57, .int v_m_58, .int v_m_59, .int v_m_60, .ref a38, .int v_m_62, .ref a39, .ref a40, .ref a41, .ref a42, .int v_m_67, .int v_m_68])), (a15, .inl (cI, 12, .inl g_m_off))] (QI G (TY cI cJ cB cZ) (fun (r : Int32) (u : Unit) => (1 ≤ r.toInt ∧ r.toInt ≤ 9) ∧ (r.toInt = wdI g_m_off 0 b1.toInt)) (fun u : Unit => [(a0, .inr (10, [.ref a1, .ref a2, .int v_m_2, .int v_m_3, .int v_m_4, .int v_m_5, .int v_m_6, .int v_m_7, .int v_m_8, .int v_m_9, .long w_m_10, .ref a3, .ref a4, .ref a5, .ref a6, .ref a7, .ref a8, .ref a9, .ref a10, .ref a11, .ref a12, .ref a13, .ref a14, .ref a15, .ref a16, .ref a17, .ref a18, .ref a19, .ref a20, .ref a21, .ref a22, .ref a23, .ref a24, .ref a25, .ref a26, .ref a27, .ref a28, .ref a29, .ref a30, .ref a31, .int 0, .int v_m_41, .ref a32, .ref a33, .int v_m_44, .int v_m_45, .int v_m_46, .int v_m_47, .ref a34, .int v_m_49, .ref a35, .ref a36, .ref a37, .int v_m_53, .int v_m_54, .int v_m_55, .int v_m_56, .int v_m_57, .int v_m_58, .int v_m_59, .int v_m_60, .ref a38, .int v_m_62, .ref a39, .ref a40, .ref a41, .ref a42, .int v_m_67, .int v_m_68])), (a15, .inl (cI, 12, .inl g_m_off))])) := by
  refine k_met (by decide) (Nat.le_of_ble_eq_true rfl) ?_
  intro p e s m below meth c A ls hC hr hlk hnm hN hZ hK hA hP hD hS hl
  have hl : lv_has ls 2 [(0, .ref a0), (1, .int b1)] := hl
  generalize hQm : MQ below _ _ s _ _ A = Qm
  generalize (List.toArray _ : Array Value) = args at hC hQm ⊢
  obtain ⟨hx, hb, hml, hown, hts⟩ := id hC
  obtain ⟨H, hH⟩ : ∃ q, q = s.heap := ⟨_, rfl⟩
  obtain ⟨locs, hlo⟩ : ∃ q : List Loc, q = [] := ⟨_, rfl⟩
  have hP : va_P G cl [(a0, .inr (10, [.ref a1, .ref a2, .int v_m_2, .int v_m_3, .int v_m_4, .int v_m_5, .int v_m_6, .int v_m_7, .int v_m_8, .int v_m_9, .long w_m_10, .ref a3, .ref a4, .ref a5, .ref a6, .ref a7, .ref a8, .ref a9, .ref a10, .ref a11, .ref a12, .ref a13, .ref a14, .ref a15, .ref a16, .ref a17, .ref a18, .ref a19, .ref a20, .ref a21, .ref a22, .ref a23, .ref a24, .ref a25, .ref a26, .ref a27, .ref a28, .ref a29, .ref a30, .ref a31, .int 0, .int v_m_41, .ref a32, .ref a33, .int v_m_44, .int v_m_45, .int v_m_46, .int v_m_47, .ref a34, .int v_m_49, .ref a35, .ref a36, .ref a37, .int v_m_53, .int v_m_54, .int v_m_55, .int v_m_56, .int v_m_57, .int v_m_58, .int v_m_59, .int v_m_60, .ref a38, .int v_m_62, .ref a39, .ref a40, .ref a41, .ref a42, .int v_m_67, .int v_m_68])), (a15, .inl (cI, 12, .inl g_m_off))] H := by rw [hH]; exact hP
  have hS : va_S A s.heap H locs := by rw [hH, hlo]; exact hS
  rw [← hlo]
  rw [← hH]
  refine lv_iconst (v := 2) hx hb dX10_wide_0 (by decide) ?_
  refine lv_aload_n hx hb dX10_wide_1 rfl (lv_at hl 0 rfl) ?_
  refine k_get hC hK hP iX10 0 23 wf_X10_147 rfl (by decide) rfl rfl dX10_wide_2 ?_
  refine lv_aload_n hx hb dX10_wide_5 rfl (lv_at hl 0 rfl) ?_
  refine lv_iload_n hx hb dX10_wide_6 rfl (lv_at hl 1 rfl) ?_
  refine k_ci (wr := [(a15, .inl (cI, 12, .inl g_m_off))]) (k_rV hC hN hZ hS hA hK hP hD (c18_X10_at0 l G cI cJ cB cZ a0 a1 a2 a3 a4 a5 a6 a7 a8 a9 a10 a11 a12 a13 a14 a15 a16 a17 a18 a19 a20 a21 a22 a23 a24 a25 a26 a27 a28 a29 a30 a31 a32 a33 a34 a35 a36 a37 a38 a39 a40 a41 a42 b1 v_m_2 v_m_3 v_m_4 v_m_5 v_m_6 v_m_7 v_m_8 v_m_9 w_m_10 v_m_41 v_m_44 v_m_45 v_m_46 v_m_47 v_m_49 v_m_53 v_m_54 v_m_55 v_m_56 v_m_57 v_m_58 v_m_59 v_m_60 v_m_62 v_m_67 v_m_68 hv_0 hv_1 hv_2 hv_3 hv_4 hv_5 hv_6 hv_7 hv_8 hv_9 hv_10 hv_11 hv_12 hv_13 hv_14 hv_15 hv_16 hv_17 hv_18 hv_19 hv_20 hv_21 hv_22 hv_23 hv_24 hv_25 hv_26 hv_27 hv_28 hv_29 hv_30 hv_31 hv_32) [0] rfl (by decide +kernel) mi_X10_at0 in_X10_at0 se_X10_at0 wm_X10_329 10 0 rfl rfl rfl hl.1 rfl rfl (Nat.le_of_ble_eq_true rfl) ⟨(Nat.le_of_ble_eq_true rfl), (Nat.le_of_ble_eq_true rfl)⟩ dX10_wide_7 ⟨(Nat.le_of_ble_eq_true rfl), (Nat.le_of_ble_eq_true rfl)⟩) hP hD hS hA [0] [1] rfl rfl (by decide +kernel) (by decide +kernel) (fun r1 u1 H locs hp hP hD hS => ?_)
  have hp : (0 ≤ r1.toInt ∧ r1.toInt ≤ 5 ∧ (r1.toInt = 6 * 0 + b1.toInt)) := hp
  have hP : va_P G cl [(a15, .inl (cI, 12, .inl g_m_off)), (a0, .inr (10, [.ref a1, .ref a2, .int v_m_2, .int v_m_3, .int v_m_4, .int v_m_5, .int v_m_6, .int v_m_7, .int v_m_8, .int v_m_9, .long w_m_10, .ref a3, .ref a4, .ref a5, .ref a6, .ref a7, .ref a8, .ref a9, .ref a10, .ref a11, .ref a12, .ref a13, .ref a14, .ref a15, .ref a16, .ref a17, .ref a18, .ref a19, .ref a20, .ref a21, .ref a22, .ref a23, .ref a24, .ref a25, .ref a26, .ref a27, .ref a28, .ref a29, .ref a30, .ref a31, .int 0, .int v_m_41, .ref a32, .ref a33, .int v_m_44, .int v_m_45, .int v_m_46, .int v_m_47, .ref a34, .int v_m_49, .ref a35, .ref a36, .ref a37, .int v_m_53, .int v_m_54, .int v_m_55, .int v_m_56, .int v_m_57, .int v_m_58, .int v_m_59, .int v_m_60, .ref a38, .int v_m_62, .ref a39, .ref a40, .ref a41, .ref a42, .int v_m_67, .int v_m_68]))] H := hP
  have hD : va_D A [(a15, .inl (cI, 12, .inl g_m_off)), (a0, .inr (10, [.ref a1, .ref a2, .int v_m_2, .int v_m_3, .int v_m_4, .int v_m_5, .int v_m_6, .int v_m_7, .int v_m_8, .int v_m_9, .long w_m_10, .ref a3, .ref a4, .ref a5, .ref a6, .ref a7, .ref a8, .ref a9, .ref a10, .ref a11, .ref a12, .ref a13, .ref a14, .ref a15, .ref a16, .ref a17, .ref a18, .ref a19, .ref a20, .ref a21, .ref a22, .ref a23, .ref a24, .ref a25, .ref a26, .ref a27, .ref a28, .ref a29, .ref a30, .ref a31, .int 0, .int v_m_41, .ref a32, .ref a33, .int v_m_44, .int v_m_45, .int v_m_46, .int v_m_47, .ref a34, .int v_m_49, .ref a35, .ref a36, .ref a37, .int v_m_53, .int v_m_54, .int v_m_55, .int v_m_56, .int v_m_57, .int v_m_58, .int v_m_59, .int v_m_60, .ref a38, .int v_m_62, .ref a39, .ref a40, .ref a41, .ref a42, .int v_m_67, .int v_m_68]))] := hD
  have hq1 := hp
  refine t_ialdX hC hK hP 0 rfl (by omega) (by omega) hT_g_m_off dX10_wide_10 (fun z2 tz2 ex_10 => ?_)
  refine lv_imul hx hb dX10_wide_11 ?_
  refine t_i (fun q => q.toInt = 2 * z2.toInt) (mul_i (by show (-2147483648 : Int) ≤ 2 * z2.toInt; omega) (by show 2 * z2.toInt ≤ (2147483647 : Int); omega)) (fun z3 tz3 => ?_)
  refine lv_iconst (v := 1) hx hb dX10_wide_12 (by decide) ?_
  refine lv_iadd hx hb dX10_wide_13 ?_
  refine t_i (fun q => q.toInt = z3.toInt + 1) (add_i (by show (-2147483648 : Int) ≤ z3.toInt + 1; omega) (by show z3.toInt + 1 ≤ (2147483647 : Int); omega)) (fun z4 tz4 => ?_)
  rw [← hQm]
  exact k_iret hC hr hlk hK hP hD hS () [1, 0] rfl (by decide +kernel) ⟨(show 1 ≤ z4.toInt ∧ z4.toInt ≤ 9 from by omega), (show z4.toInt = wdI g_m_off 0 b1.toInt from by have e1_ := ex_10 (6 * 0 + b1.toInt) (by omega); unfold wdI; omega)⟩ (Nat.le_of_ble_eq_true rfl) (Nat.le_of_ble_eq_true rfl) dX10_wide_14
theorem dX10_product_0 : decode cX10_product 0 = .ok (.aload_n 0, 1) := by decide +kernel
theorem dX10_product_1 : decode cX10_product 1 = .ok (.getfield 126, 3) := by decide +kernel
set_option maxRecDepth 100000 in
theorem wf_X10_126 : Cond.fieldLink RX10 126 "StoneTrustModel" "armHigh" "[I" ∈ gw := gm (List.mem_of_getElem? (i := 1271) (by decide +kernel)) rfl
theorem dX10_product_4 : decode cX10_product 4 = .ok (.aload_n 0, 1) := by decide +kernel
theorem dX10_product_5 : decode cX10_product 5 = .ok (.getfield 240, 3) := by decide +kernel
theorem dX10_product_8 : decode cX10_product 8 = .ok (.iaload, 1) := by decide +kernel
theorem dX10_product_9 : decode cX10_product 9 = .ok (.aload_n 0, 1) := by decide +kernel
theorem dX10_product_10 : decode cX10_product 10 = .ok (.getfield 122, 3) := by decide +kernel
set_option maxRecDepth 100000 in
theorem wf_X10_122 : Cond.fieldLink RX10 122 "StoneTrustModel" "armLow" "[I" ∈ gw := gm (List.mem_of_getElem? (i := 1270) (by decide +kernel)) rfl
theorem dX10_product_13 : decode cX10_product 13 = .ok (.aload_n 0, 1) := by decide +kernel
theorem dX10_product_14 : decode cX10_product 14 = .ok (.getfield 240, 3) := by decide +kernel
theorem dX10_product_17 : decode cX10_product 17 = .ok (.iaload, 1) := by decide +kernel
theorem dX10_product_18 : decode cX10_product 18 = .ok (.isub, 1) := by decide +kernel
theorem dX10_product_19 : decode cX10_product 19 = .ok (.iconst 1, 1) := by decide +kernel
theorem dX10_product_20 : decode cX10_product 20 = .ok (.iadd, 1) := by decide +kernel
theorem dX10_product_21 : decode cX10_product 21 = .ok (.i2l, 1) := by decide +kernel
theorem dX10_product_22 : decode cX10_product 22 = .ok (.aload_n 0, 1) := by decide +kernel
theorem dX10_product_23 : decode cX10_product 23 = .ok (.iconst 0, 1) := by decide +kernel
theorem dX10_product_24 : decode cX10_product 24 = .ok (.invokevirtual 332, 3) := by decide +kernel
set_option maxRecDepth 100000 in
theorem wm_X10_332 : Cond.methodLink RX10 332 yX10_poundWide ∈ gw := gm (List.mem_of_getElem? (i := 1623) (by decide +kernel)) rfl
set_option maxRecDepth 100000 in
theorem mi_X10_poundWide : MI yX10_poundWide cX10_poundWide 2 (some .int) 1 := ⟨gm (List.mem_of_getElem? (i := 1626) rfl) rfl, gm (List.mem_of_getElem? (i := 124) (by decide +kernel)) rfl, by decide, by decide, by decide +kernel⟩
set_option maxRecDepth 100000 in
theorem in_X10_poundWide : Cond.instanceMethod yX10_poundWide ∈ gw := gm (List.mem_of_getElem? (i := 1625) (by decide +kernel)) rfl
set_option maxRecDepth 100000 in
theorem se_X10_poundWide : Cond.selects yX10_poundWide.cls yX10_poundWide yX10_poundWide ∈ gw := gm (List.mem_of_getElem? (i := 78) (by decide +kernel)) rfl
theorem dX10_product_27 : decode cX10_product 27 = .ok (.i2l, 1) := by decide +kernel
theorem dX10_product_28 : decode cX10_product 28 = .ok (.lmul, 1) := by decide +kernel
theorem dX10_product_29 : decode cX10_product 29 = .ok (.aload_n 0, 1) := by decide +kernel
theorem dX10_product_30 : decode cX10_product 30 = .ok (.iconst 1, 1) := by decide +kernel
theorem dX10_product_31 : decode cX10_product 31 = .ok (.invokevirtual 332, 3) := by decide +kernel
theorem dX10_product_34 : decode cX10_product 34 = .ok (.i2l, 1) := by decide +kernel
theorem dX10_product_35 : decode cX10_product 35 = .ok (.lmul, 1) := by decide +kernel
theorem dX10_product_36 : decode cX10_product 36 = .ok (.lstore_n 1, 1) := by decide +kernel
theorem dX10_product_37 : decode cX10_product 37 = .ok (.iconst 0, 1) := by decide +kernel
theorem dX10_product_38 : decode cX10_product 38 = .ok (.istore_n 3, 1) := by decide +kernel
theorem dX10_product_39 : decode cX10_product 39 = .ok (.iload_n 3, 1) := by decide +kernel
theorem dX10_product_40 : decode cX10_product 40 = .ok (.aload_n 0, 1) := by decide +kernel
theorem dX10_product_41 : decode cX10_product 41 = .ok (.invokevirtual 304, 3) := by decide +kernel
theorem dX10_product_44 : decode cX10_product 44 = .ok (.if_icmp .ge 18, 3) := by decide +kernel
theorem dX10_product_62 : decode cX10_product 62 = .ok (.lload_n 1, 1) := by decide +kernel
theorem dX10_product_63 : decode cX10_product 63 = .ok (.lreturn, 1) := by decide +kernel
theorem dX10_product_47 : decode cX10_product 47 = .ok (.lload_n 1, 1) := by decide +kernel
theorem dX10_product_48 : decode cX10_product 48 = .ok (.aload_n 0, 1) := by decide +kernel
theorem dX10_product_49 : decode cX10_product 49 = .ok (.iload_n 3, 1) := by decide +kernel
theorem dX10_product_50 : decode cX10_product 50 = .ok (.invokevirtual 335, 3) := by decide +kernel
set_option maxRecDepth 100000 in
theorem wm_X10_335 : Cond.methodLink RX10 335 yX10_wide ∈ gw := gm (List.mem_of_getElem? (i := 1627) (by decide +kernel)) rfl
set_option maxRecDepth 100000 in
theorem mi_X10_wide : MI yX10_wide cX10_wide 2 (some .int) 1 := ⟨gm (List.mem_of_getElem? (i := 1630) rfl) rfl, gm (List.mem_of_getElem? (i := 124) (by decide +kernel)) rfl, by decide, by decide, by decide +kernel⟩
set_option maxRecDepth 100000 in
theorem in_X10_wide : Cond.instanceMethod yX10_wide ∈ gw := gm (List.mem_of_getElem? (i := 1629) (by decide +kernel)) rfl
set_option maxRecDepth 100000 in
theorem se_X10_wide : Cond.selects yX10_wide.cls yX10_wide yX10_wide ∈ gw := gm (List.mem_of_getElem? (i := 79) (by decide +kernel)) rfl
theorem dX10_product_53 : decode cX10_product 53 = .ok (.i2l, 1) := by decide +kernel
theorem dX10_product_54 : decode cX10_product 54 = .ok (.lmul, 1) := by decide +kernel
theorem dX10_product_55 : decode cX10_product 55 = .ok (.lstore_n 1, 1) := by decide +kernel
theorem dX10_product_56 : decode cX10_product 56 = .ok (.iinc 3 1, 3) := by decide +kernel
theorem dX10_product_59 : decode cX10_product 59 = .ok (.goto (-20), 3) := by decide +kernel
set_option maxHeartbeats 4000000 in
set_option maxRecDepth 100000 in
theorem c20_X10_product (l : Launch) (G : va_G) (cI cJ cB cZ : ClassId) (a0 a1 a2 a3 a4 a5 a6 a7 a8 a9 a10 a11 a12 a13 a14 a15 a16 a17 a18 a19 a20 a21 a22 a23 a24 a25 a26 a27 a28 a29 a30 a31 a32 a33 a34 a35 a36 a37 a38 a39 a40 a41 a42 : Nat) (v_m_2 : Int32) (v_m_3 : Int32) (v_m_4 : Int32) (v_m_5 : Int32) (v_m_6 : Int32) (v_m_7 : Int32) (v_m_8 : Int32) (v_m_9 : Int32) (w_m_10 : Int64) (v_m_41 : Int32) (v_m_44 : Int32) (v_m_45 : Int32) (v_m_46 : Int32) (v_m_47 : Int32) (v_m_49 : Int32) (v_m_53 : Int32) (v_m_54 : Int32) (v_m_55 : Int32) (v_m_56 : Int32) (v_m_57 : Int32) (v_m_58 : Int32) (v_m_59 : Int32) (v_m_60 : Int32) (v_m_62 : Int32) (v_m_67 : Int32) (v_m_68 : Int32) (v_m_armHigh_0 : Int32) (v_m_armHigh_1 : Int32) (v_m_armLow_0 : Int32) (v_m_armLow_1 : Int32) (v_m_poundHigh_0 : Int32) (v_m_poundHigh_1 : Int32) (v_m_poundHigh_2 : Int32) (v_m_poundHigh_3 : Int32) (v_m_poundLow_0 : Int32) (v_m_poundLow_1 : Int32) (v_m_poundLow_2 : Int32) (v_m_poundLow_3 : Int32) (v_m_stones_0 : Int32) (v_m_stones_1 : Int32) (g_m_off : Nat → Int32) (hv_0 : 0 ≤ v_m_2.toInt) (hv_1 : v_m_2.toInt ≤ 1300) (hv_2 : 0 ≤ v_m_3.toInt) (hv_3 : v_m_3.toInt ≤ 1300) (hv_4 : 0 ≤ v_m_4.toInt) (hv_5 : v_m_4.toInt ≤ 5) (hv_6 : 0 ≤ v_m_6.toInt) (hv_7 : v_m_6.toInt ≤ 1300) (hv_8 : 0 ≤ v_m_7.toInt) (hv_9 : v_m_7.toInt ≤ 1301) (hv_10 : 0 ≤ v_m_8.toInt) (hv_11 : v_m_8.toInt ≤ 5) (hv_12 : 0 ≤ v_m_9.toInt) (hv_13 : v_m_9.toInt ≤ 9999) (hv_14 : 0 ≤ v_m_41.toInt) (hv_15 : v_m_41.toInt ≤ 1) (hv_16 : 0 ≤ v_m_44.toInt) (hv_17 : v_m_44.toInt ≤ 30) (hv_18 : 0 ≤ v_m_47.toInt) (hv_19 : v_m_47.toInt ≤ 1) (hv_20 : 0 ≤ v_m_49.toInt) (hv_21 : v_m_49.toInt ≤ 46) (hv_22 : 0 ≤ v_m_53.toInt) (hv_23 : v_m_53.toInt ≤ 300000) (hv_24 : 0 ≤ v_m_55.toInt) (hv_25 : v_m_55.toInt ≤ 300109) (hv_26 : v_m_56.toInt ≤ 300000) (hv_27 : 0 ≤ v_m_57.toInt) (hv_28 : v_m_57.toInt ≤ 1) (hv_29 : 0 ≤ v_m_60.toInt) (hv_30 : v_m_60.toInt ≤ 1) (hv_31 : 1 ≤ v_m_armHigh_0.toInt) (hv_32 : v_m_armHigh_0.toInt ≤ 110) (hv_33 : 0 ≤ v_m_armHigh_1.toInt) (hv_34 : v_m_armHigh_1.toInt ≤ 110) (hv_35 : 1 ≤ v_m_armLow_0.toInt) (hv_36 : v_m_armLow_0.toInt ≤ 110) (hv_37 : 0 ≤ v_m_armLow_1.toInt) (hv_38 : v_m_armLow_1.toInt ≤ 110) (hv_39 : 1 ≤ v_m_poundHigh_0.toInt) (hv_40 : v_m_poundHigh_0.toInt ≤ 40) (hv_41 : 1 ≤ v_m_poundHigh_1.toInt) (hv_42 : v_m_poundHigh_1.toInt ≤ 40) (hv_43 : 0 ≤ v_m_poundHigh_2.toInt) (hv_44 : v_m_poundHigh_2.toInt ≤ 40) (hv_45 : 0 ≤ v_m_poundHigh_3.toInt) (hv_46 : v_m_poundHigh_3.toInt ≤ 40) (hv_47 : 1 ≤ v_m_poundLow_0.toInt) (hv_48 : v_m_poundLow_0.toInt ≤ 40) (hv_49 : 1 ≤ v_m_poundLow_1.toInt) (hv_50 : v_m_poundLow_1.toInt ≤ 40) (hv_51 : 0 ≤ v_m_poundLow_2.toInt) (hv_52 : v_m_poundLow_2.toInt ≤ 40) (hv_53 : 0 ≤ v_m_poundLow_3.toInt) (hv_54 : v_m_poundLow_3.toInt ≤ 40) (hv_55 : 0 ≤ v_m_stones_0.toInt) (hv_56 : v_m_stones_0.toInt ≤ 6) (hv_57 : 0 ≤ v_m_stones_1.toInt) (hv_58 : v_m_stones_1.toInt ≤ 6) (hv_59 : (v_m_poundLow_0.toInt ≤ v_m_poundHigh_0.toInt)) (hv_60 : (v_m_poundLow_1.toInt ≤ v_m_poundHigh_1.toInt)) (hv_61 : (v_m_armLow_0.toInt ≤ v_m_armHigh_0.toInt)) (hT_g_m_off : TA 0 4 g_m_off) : Con l G (TY cI cJ cB cZ) yX10_product cX10_product 4 (some .long) ({ frames := 2, cells := 0, slots := 0, locals := 42 } : Room) [.ref a0] [(a0, .inr (10, [.ref a1, .ref a2, .int v_m_2, .int v_m_3, .int v_m_4, .int v_m_5, .int v_m_6, .int v_m_7, .int v_m_8, .int v_m_9, .long w_m_10, .ref a3, .ref a4, .ref a5, .ref a6, .ref a7, .ref a8, .ref a9, .ref a10, .ref a11, .ref a12, .ref a13, .ref a14, .ref a15, .ref a16, .ref a17, .ref a18, .ref a19, .ref a20, .ref a21, .ref a22, .ref a23, .ref a24, .ref a25, .ref a26, .ref a27, .ref a28, .ref a29, .ref a30, .ref a31, .int 0, .int v_m_41, .ref a32, .ref a33, .int v_m_44, .int v_m_45, .int v_m_46, .int v_m_47, .ref a34, .int v_m_49, .ref a35, .ref a36, .ref a37, .int v_m_53, .int v_m_54, .int v_m_55, .int v_m_56, .int v_m_57, .int v_m_58, .int v_m_59, .int v_m_60, .ref a38, .int v_m_62, .ref a39, .ref a40, .ref a41, .ref a42, .int v_m_67, .int v_m_68])), (a8, .inl (cI, 2, .inl (ex2 v_m_armHigh_0 v_m_armHigh_1))), (a7, .inl (cI, 2, .inl (ex2 v_m_armLow_0 v_m_armLow_1))), (a11, .inl (cI, 4, .inl (ex4 v_m_poundHigh_0 v_m_poundHigh_1 v_m_poundHigh_2 v_m_poundHigh_3))), (a10, .inl (cI, 4, .inl (ex4 v_m_poundLow_0 v_m_poundLow_1 v_m_poundLow_2 v_m_poundLow_3))), (a15, .inl (cI, 12, .inl g_m_off)), (a12, .inl (cI, 2, .inl (ex2 v_m_stones_0 v_m_stones_1)))] (QL G (TY cI cJ cB cZ) (fun (r : Int64) (u : Unit) => (True) ∧ (r.toInt = ((v_m_armHigh_0.toInt - v_m_armLow_0.toInt + 1) * (v_m_poundHigh_0.toInt - v_m_poundLow_0.toInt + 1) * (v_m_poundHigh_1.toInt - v_m_poundLow_1.toInt + 1)) * PP g_m_off 0 v_m_stones_0.toInt.toNat ∧ 1 ≤ r.toInt)) (fun u : Unit => [(a0, .inr (10, [.ref a1, .ref a2, .int v_m_2, .int v_m_3, .int v_m_4, .int v_m_5, .int v_m_6, .int v_m_7, .int v_m_8, .int v_m_9, .long w_m_10, .ref a3, .ref a4, .ref a5, .ref a6, .ref a7, .ref a8, .ref a9, .ref a10, .ref a11, .ref a12, .ref a13, .ref a14, .ref a15, .ref a16, .ref a17, .ref a18, .ref a19, .ref a20, .ref a21, .ref a22, .ref a23, .ref a24, .ref a25, .ref a26, .ref a27, .ref a28, .ref a29, .ref a30, .ref a31, .int 0, .int v_m_41, .ref a32, .ref a33, .int v_m_44, .int v_m_45, .int v_m_46, .int v_m_47, .ref a34, .int v_m_49, .ref a35, .ref a36, .ref a37, .int v_m_53, .int v_m_54, .int v_m_55, .int v_m_56, .int v_m_57, .int v_m_58, .int v_m_59, .int v_m_60, .ref a38, .int v_m_62, .ref a39, .ref a40, .ref a41, .ref a42, .int v_m_67, .int v_m_68])), (a8, .inl (cI, 2, .inl (ex2 v_m_armHigh_0 v_m_armHigh_1))), (a7, .inl (cI, 2, .inl (ex2 v_m_armLow_0 v_m_armLow_1))), (a11, .inl (cI, 4, .inl (ex4 v_m_poundHigh_0 v_m_poundHigh_1 v_m_poundHigh_2 v_m_poundHigh_3))), (a10, .inl (cI, 4, .inl (ex4 v_m_poundLow_0 v_m_poundLow_1 v_m_poundLow_2 v_m_poundLow_3))), (a15, .inl (cI, 12, .inl g_m_off)), (a12, .inl (cI, 2, .inl (ex2 v_m_stones_0 v_m_stones_1)))])) := by
  refine k_met (by decide) (Nat.le_of_ble_eq_true rfl) ?_
  intro p e s m below meth c A ls hC hr hlk hnm hN hZ hK hA hP hD hS hl
  have hl : lv_has ls 4 [(0, .ref a0)] := hl
  generalize hQm : MQ below _ _ s _ _ A = Qm
  generalize (List.toArray _ : Array Value) = args at hC hQm ⊢
  obtain ⟨hx, hb, hml, hown, hts⟩ := id hC
  obtain ⟨H, hH⟩ : ∃ q, q = s.heap := ⟨_, rfl⟩
  obtain ⟨locs, hlo⟩ : ∃ q : List Loc, q = [] := ⟨_, rfl⟩
  have hP : va_P G cl [(a0, .inr (10, [.ref a1, .ref a2, .int v_m_2, .int v_m_3, .int v_m_4, .int v_m_5, .int v_m_6, .int v_m_7, .int v_m_8, .int v_m_9, .long w_m_10, .ref a3, .ref a4, .ref a5, .ref a6, .ref a7, .ref a8, .ref a9, .ref a10, .ref a11, .ref a12, .ref a13, .ref a14, .ref a15, .ref a16, .ref a17, .ref a18, .ref a19, .ref a20, .ref a21, .ref a22, .ref a23, .ref a24, .ref a25, .ref a26, .ref a27, .ref a28, .ref a29, .ref a30, .ref a31, .int 0, .int v_m_41, .ref a32, .ref a33, .int v_m_44, .int v_m_45, .int v_m_46, .int v_m_47, .ref a34, .int v_m_49, .ref a35, .ref a36, .ref a37, .int v_m_53, .int v_m_54, .int v_m_55, .int v_m_56, .int v_m_57, .int v_m_58, .int v_m_59, .int v_m_60, .ref a38, .int v_m_62, .ref a39, .ref a40, .ref a41, .ref a42, .int v_m_67, .int v_m_68])), (a8, .inl (cI, 2, .inl (ex2 v_m_armHigh_0 v_m_armHigh_1))), (a7, .inl (cI, 2, .inl (ex2 v_m_armLow_0 v_m_armLow_1))), (a11, .inl (cI, 4, .inl (ex4 v_m_poundHigh_0 v_m_poundHigh_1 v_m_poundHigh_2 v_m_poundHigh_3))), (a10, .inl (cI, 4, .inl (ex4 v_m_poundLow_0 v_m_poundLow_1 v_m_poundLow_2 v_m_poundLow_3))), (a15, .inl (cI, 12, .inl g_m_off)), (a12, .inl (cI, 2, .inl (ex2 v_m_stones_0 v_m_stones_1)))] H := by rw [hH]; exact hP
  have hS : va_S A s.heap H locs := by rw [hH, hlo]; exact hS
  rw [← hlo]
  rw [← hH]
  refine lv_aload_n hx hb dX10_product_0 rfl (lv_at hl 0 rfl) ?_
  refine k_get hC hK hP iX10 0 16 wf_X10_126 rfl (by decide) rfl rfl dX10_product_1 ?_
  refine lv_aload_n hx hb dX10_product_4 rfl (lv_at hl 0 rfl) ?_
  refine k_get hC hK hP iX10 0 40 wf_X10_240 rfl (by decide) rfl rfl dX10_product_5 ?_
  refine k_iald (v := v_m_armHigh_0) hC hK hP 1 0 rfl (by decide +kernel) (by decide) rfl dX10_product_8 ?_
  refine lv_aload_n hx hb dX10_product_9 rfl (lv_at hl 0 rfl) ?_
  refine k_get hC hK hP iX10 0 15 wf_X10_122 rfl (by decide) rfl rfl dX10_product_10 ?_
  refine lv_aload_n hx hb dX10_product_13 rfl (lv_at hl 0 rfl) ?_
  refine k_get hC hK hP iX10 0 40 wf_X10_240 rfl (by decide) rfl rfl dX10_product_14 ?_
  refine k_iald (v := v_m_armLow_0) hC hK hP 2 0 rfl (by decide +kernel) (by decide) rfl dX10_product_17 ?_
  refine lv_isub hx hb dX10_product_18 ?_
  refine t_i (fun q => q.toInt = v_m_armHigh_0.toInt - v_m_armLow_0.toInt) (sub_i (by show (-2147483648 : Int) ≤ v_m_armHigh_0.toInt - v_m_armLow_0.toInt; omega) (by show v_m_armHigh_0.toInt - v_m_armLow_0.toInt ≤ (2147483647 : Int); omega)) (fun z1 tz1 => ?_)
  refine lv_iconst (v := 1) hx hb dX10_product_19 (by decide) ?_
  refine lv_iadd hx hb dX10_product_20 ?_
  refine t_i (fun q => q.toInt = z1.toInt + 1) (add_i (by show (-2147483648 : Int) ≤ z1.toInt + 1; omega) (by show z1.toInt + 1 ≤ (2147483647 : Int); omega)) (fun z2 tz2 => ?_)
  have as3 : 1 ≤ z2.toInt ∧ z2.toInt ≤ 111 := by omega
  refine lv_i2l hx hb dX10_product_21 rfl ?_
  refine t_lX (fun q => q.toInt = z2.toInt) (Int32.toInt_toInt64 _) (fun y4 ar_21 => ?_)
  refine lv_aload_n hx hb dX10_product_22 rfl (lv_at hl 0 rfl) ?_
  refine lv_iconst (v := 0) hx hb dX10_product_23 (by decide) ?_
  refine k_ci (wr := [(a8, .inl (cI, 2, .inl (ex2 v_m_armHigh_0 v_m_armHigh_1))), (a7, .inl (cI, 2, .inl (ex2 v_m_armLow_0 v_m_armLow_1))), (a15, .inl (cI, 12, .inl g_m_off)), (a12, .inl (cI, 2, .inl (ex2 v_m_stones_0 v_m_stones_1)))]) (k_rV hC hN hZ hS hA hK hP hD (c16_X10_poundWide l G cI cJ cB cZ a0 a1 a2 a3 a4 a5 a6 a7 a8 a9 a10 a11 a12 a13 a14 a15 a16 a17 a18 a19 a20 a21 a22 a23 a24 a25 a26 a27 a28 a29 a30 a31 a32 a33 a34 a35 a36 a37 a38 a39 a40 a41 a42 v_m_2 v_m_3 v_m_4 v_m_5 v_m_6 v_m_7 v_m_8 v_m_9 w_m_10 v_m_41 v_m_44 v_m_45 v_m_46 v_m_47 v_m_49 v_m_53 v_m_54 v_m_55 v_m_56 v_m_57 v_m_58 v_m_59 v_m_60 v_m_62 v_m_67 v_m_68 v_m_poundLow_0 v_m_poundLow_1 v_m_poundLow_2 v_m_poundLow_3 v_m_poundHigh_0 v_m_poundHigh_1 v_m_poundHigh_2 v_m_poundHigh_3 hv_0 hv_1 hv_2 hv_3 hv_4 hv_5 hv_6 hv_7 hv_8 hv_9 hv_10 hv_11 hv_12 hv_13 hv_14 hv_15 hv_16 hv_17 hv_18 hv_19 hv_20 hv_21 hv_22 hv_23 hv_24 hv_25 hv_26 hv_27 hv_28 hv_29 hv_30 hv_47 hv_48 hv_49 hv_50 hv_51 hv_52 hv_53 hv_54 hv_39 hv_40 hv_41 hv_42 hv_43 hv_44 hv_45 hv_46 hv_59) [0, 4, 3] rfl (by decide +kernel) mi_X10_poundWide in_X10_poundWide se_X10_poundWide wm_X10_332 10 0 rfl rfl rfl hl.1 rfl rfl (Nat.le_of_ble_eq_true rfl) ⟨(Nat.le_of_ble_eq_true rfl), (Nat.le_of_ble_eq_true rfl)⟩ dX10_product_24 ⟨(Nat.le_of_ble_eq_true rfl), (Nat.le_of_ble_eq_true rfl)⟩) hP hD hS hA [0, 4, 3] [1, 2, 5, 6] rfl rfl (by decide +kernel) (by decide +kernel) (fun r5 u5 H locs hp hP hD hS => ?_)
  have hp : (1 ≤ r5.toInt ∧ r5.toInt ≤ 40 ∧ (r5.toInt = v_m_poundHigh_0.toInt - v_m_poundLow_0.toInt + 1)) := hp
  have hP : va_P G cl [(a8, .inl (cI, 2, .inl (ex2 v_m_armHigh_0 v_m_armHigh_1))), (a7, .inl (cI, 2, .inl (ex2 v_m_armLow_0 v_m_armLow_1))), (a15, .inl (cI, 12, .inl g_m_off)), (a12, .inl (cI, 2, .inl (ex2 v_m_stones_0 v_m_stones_1))), (a0, .inr (10, [.ref a1, .ref a2, .int v_m_2, .int v_m_3, .int v_m_4, .int v_m_5, .int v_m_6, .int v_m_7, .int v_m_8, .int v_m_9, .long w_m_10, .ref a3, .ref a4, .ref a5, .ref a6, .ref a7, .ref a8, .ref a9, .ref a10, .ref a11, .ref a12, .ref a13, .ref a14, .ref a15, .ref a16, .ref a17, .ref a18, .ref a19, .ref a20, .ref a21, .ref a22, .ref a23, .ref a24, .ref a25, .ref a26, .ref a27, .ref a28, .ref a29, .ref a30, .ref a31, .int 0, .int v_m_41, .ref a32, .ref a33, .int v_m_44, .int v_m_45, .int v_m_46, .int v_m_47, .ref a34, .int v_m_49, .ref a35, .ref a36, .ref a37, .int v_m_53, .int v_m_54, .int v_m_55, .int v_m_56, .int v_m_57, .int v_m_58, .int v_m_59, .int v_m_60, .ref a38, .int v_m_62, .ref a39, .ref a40, .ref a41, .ref a42, .int v_m_67, .int v_m_68])), (a10, .inl (cI, 4, .inl (ex4 v_m_poundLow_0 v_m_poundLow_1 v_m_poundLow_2 v_m_poundLow_3))), (a11, .inl (cI, 4, .inl (ex4 v_m_poundHigh_0 v_m_poundHigh_1 v_m_poundHigh_2 v_m_poundHigh_3)))] H := hP
  have hD : va_D A [(a8, .inl (cI, 2, .inl (ex2 v_m_armHigh_0 v_m_armHigh_1))), (a7, .inl (cI, 2, .inl (ex2 v_m_armLow_0 v_m_armLow_1))), (a15, .inl (cI, 12, .inl g_m_off)), (a12, .inl (cI, 2, .inl (ex2 v_m_stones_0 v_m_stones_1))), (a0, .inr (10, [.ref a1, .ref a2, .int v_m_2, .int v_m_3, .int v_m_4, .int v_m_5, .int v_m_6, .int v_m_7, .int v_m_8, .int v_m_9, .long w_m_10, .ref a3, .ref a4, .ref a5, .ref a6, .ref a7, .ref a8, .ref a9, .ref a10, .ref a11, .ref a12, .ref a13, .ref a14, .ref a15, .ref a16, .ref a17, .ref a18, .ref a19, .ref a20, .ref a21, .ref a22, .ref a23, .ref a24, .ref a25, .ref a26, .ref a27, .ref a28, .ref a29, .ref a30, .ref a31, .int 0, .int v_m_41, .ref a32, .ref a33, .int v_m_44, .int v_m_45, .int v_m_46, .int v_m_47, .ref a34, .int v_m_49, .ref a35, .ref a36, .ref a37, .int v_m_53, .int v_m_54, .int v_m_55, .int v_m_56, .int v_m_57, .int v_m_58, .int v_m_59, .int v_m_60, .ref a38, .int v_m_62, .ref a39, .ref a40, .ref a41, .ref a42, .int v_m_67, .int v_m_68])), (a10, .inl (cI, 4, .inl (ex4 v_m_poundLow_0 v_m_poundLow_1 v_m_poundLow_2 v_m_poundLow_3))), (a11, .inl (cI, 4, .inl (ex4 v_m_poundHigh_0 v_m_poundHigh_1 v_m_poundHigh_2 v_m_poundHigh_3)))] := hD
  have hq5 := hp
  refine lv_i2l hx hb dX10_product_27 rfl ?_
  refine t_lX (fun q => q.toInt = r5.toInt) (Int32.toInt_toInt64 _) (fun y6 ar_27 => ?_)
  refine lv_lmul hx hb dX10_product_28 ?_
  refine t_lX (fun q => q = y4 * y6) rfl (fun y7 ar_28 => ?_)
  refine lv_aload_n hx hb dX10_product_29 rfl (lv_at hl 0 rfl) ?_
  refine lv_iconst (v := 1) hx hb dX10_product_30 (by decide) ?_
  refine k_ci (wr := [(a8, .inl (cI, 2, .inl (ex2 v_m_armHigh_0 v_m_armHigh_1))), (a7, .inl (cI, 2, .inl (ex2 v_m_armLow_0 v_m_armLow_1))), (a15, .inl (cI, 12, .inl g_m_off)), (a12, .inl (cI, 2, .inl (ex2 v_m_stones_0 v_m_stones_1)))]) (k_rV hC hN hZ hS hA hK hP hD (c17_X10_poundWide l G cI cJ cB cZ a0 a1 a2 a3 a4 a5 a6 a7 a8 a9 a10 a11 a12 a13 a14 a15 a16 a17 a18 a19 a20 a21 a22 a23 a24 a25 a26 a27 a28 a29 a30 a31 a32 a33 a34 a35 a36 a37 a38 a39 a40 a41 a42 v_m_2 v_m_3 v_m_4 v_m_5 v_m_6 v_m_7 v_m_8 v_m_9 w_m_10 v_m_41 v_m_44 v_m_45 v_m_46 v_m_47 v_m_49 v_m_53 v_m_54 v_m_55 v_m_56 v_m_57 v_m_58 v_m_59 v_m_60 v_m_62 v_m_67 v_m_68 v_m_poundLow_0 v_m_poundLow_1 v_m_poundLow_2 v_m_poundLow_3 v_m_poundHigh_0 v_m_poundHigh_1 v_m_poundHigh_2 v_m_poundHigh_3 hv_0 hv_1 hv_2 hv_3 hv_4 hv_5 hv_6 hv_7 hv_8 hv_9 hv_10 hv_11 hv_12 hv_13 hv_14 hv_15 hv_16 hv_17 hv_18 hv_19 hv_20 hv_21 hv_22 hv_23 hv_24 hv_25 hv_26 hv_27 hv_28 hv_29 hv_30 hv_47 hv_48 hv_49 hv_50 hv_51 hv_52 hv_53 hv_54 hv_39 hv_40 hv_41 hv_42 hv_43 hv_44 hv_45 hv_46 hv_60) [4, 5, 6] rfl (by decide +kernel) mi_X10_poundWide in_X10_poundWide se_X10_poundWide wm_X10_332 10 4 rfl rfl rfl hl.1 rfl rfl (Nat.le_of_ble_eq_true rfl) ⟨(Nat.le_of_ble_eq_true rfl), (Nat.le_of_ble_eq_true rfl)⟩ dX10_product_31 ⟨(Nat.le_of_ble_eq_true rfl), (Nat.le_of_ble_eq_true rfl)⟩) hP hD hS hA [4, 5, 6] [0, 1, 2, 3] rfl rfl (by decide +kernel) (by decide +kernel) (fun r8 u8 H locs hp hP hD hS => ?_)
  have hp : (1 ≤ r8.toInt ∧ r8.toInt ≤ 40 ∧ (r8.toInt = v_m_poundHigh_1.toInt - v_m_poundLow_1.toInt + 1)) := hp
  have hP : va_P G cl [(a8, .inl (cI, 2, .inl (ex2 v_m_armHigh_0 v_m_armHigh_1))), (a7, .inl (cI, 2, .inl (ex2 v_m_armLow_0 v_m_armLow_1))), (a15, .inl (cI, 12, .inl g_m_off)), (a12, .inl (cI, 2, .inl (ex2 v_m_stones_0 v_m_stones_1))), (a0, .inr (10, [.ref a1, .ref a2, .int v_m_2, .int v_m_3, .int v_m_4, .int v_m_5, .int v_m_6, .int v_m_7, .int v_m_8, .int v_m_9, .long w_m_10, .ref a3, .ref a4, .ref a5, .ref a6, .ref a7, .ref a8, .ref a9, .ref a10, .ref a11, .ref a12, .ref a13, .ref a14, .ref a15, .ref a16, .ref a17, .ref a18, .ref a19, .ref a20, .ref a21, .ref a22, .ref a23, .ref a24, .ref a25, .ref a26, .ref a27, .ref a28, .ref a29, .ref a30, .ref a31, .int 0, .int v_m_41, .ref a32, .ref a33, .int v_m_44, .int v_m_45, .int v_m_46, .int v_m_47, .ref a34, .int v_m_49, .ref a35, .ref a36, .ref a37, .int v_m_53, .int v_m_54, .int v_m_55, .int v_m_56, .int v_m_57, .int v_m_58, .int v_m_59, .int v_m_60, .ref a38, .int v_m_62, .ref a39, .ref a40, .ref a41, .ref a42, .int v_m_67, .int v_m_68])), (a10, .inl (cI, 4, .inl (ex4 v_m_poundLow_0 v_m_poundLow_1 v_m_poundLow_2 v_m_poundLow_3))), (a11, .inl (cI, 4, .inl (ex4 v_m_poundHigh_0 v_m_poundHigh_1 v_m_poundHigh_2 v_m_poundHigh_3)))] H := hP
  have hD : va_D A [(a8, .inl (cI, 2, .inl (ex2 v_m_armHigh_0 v_m_armHigh_1))), (a7, .inl (cI, 2, .inl (ex2 v_m_armLow_0 v_m_armLow_1))), (a15, .inl (cI, 12, .inl g_m_off)), (a12, .inl (cI, 2, .inl (ex2 v_m_stones_0 v_m_stones_1))), (a0, .inr (10, [.ref a1, .ref a2, .int v_m_2, .int v_m_3, .int v_m_4, .int v_m_5, .int v_m_6, .int v_m_7, .int v_m_8, .int v_m_9, .long w_m_10, .ref a3, .ref a4, .ref a5, .ref a6, .ref a7, .ref a8, .ref a9, .ref a10, .ref a11, .ref a12, .ref a13, .ref a14, .ref a15, .ref a16, .ref a17, .ref a18, .ref a19, .ref a20, .ref a21, .ref a22, .ref a23, .ref a24, .ref a25, .ref a26, .ref a27, .ref a28, .ref a29, .ref a30, .ref a31, .int 0, .int v_m_41, .ref a32, .ref a33, .int v_m_44, .int v_m_45, .int v_m_46, .int v_m_47, .ref a34, .int v_m_49, .ref a35, .ref a36, .ref a37, .int v_m_53, .int v_m_54, .int v_m_55, .int v_m_56, .int v_m_57, .int v_m_58, .int v_m_59, .int v_m_60, .ref a38, .int v_m_62, .ref a39, .ref a40, .ref a41, .ref a42, .int v_m_67, .int v_m_68])), (a10, .inl (cI, 4, .inl (ex4 v_m_poundLow_0 v_m_poundLow_1 v_m_poundLow_2 v_m_poundLow_3))), (a11, .inl (cI, 4, .inl (ex4 v_m_poundHigh_0 v_m_poundHigh_1 v_m_poundHigh_2 v_m_poundHigh_3)))] := hD
  have hq8 := hp
  refine lv_i2l hx hb dX10_product_34 rfl ?_
  refine t_lX (fun q => q.toInt = r8.toInt) (Int32.toInt_toInt64 _) (fun y9 ar_34 => ?_)
  refine lv_lmul hx hb dX10_product_35 ?_
  refine t_lX (fun q => q = y7 * y9) rfl (fun y10 ar_35 => ?_)
  refine lv_lstore_n (lv' := [(1, .long y10), (0, .ref a0)]) hx hb dX10_product_36 rfl hl (by decide) rfl (fun ls hl => ?_)
  refine lv_iconst (v := 0) hx hb dX10_product_37 (by decide) ?_
  refine lv_istore_n (lv' := [(3, .int 0), (1, .long y10), (0, .ref a0)]) hx hb dX10_product_38 rfl hl (by decide) rfl (fun ls hl => ?_)
  have L_39 : ∀ (n : Nat) (x11 : Int32) (y12 : Int64) (H : Heap) (locs : List Loc) (ls : Array Slot), (0 ≤ x11.toInt ∧ x11.toInt ≤ 6 ∧ (x11.toInt ≤ v_m_stones_0.toInt)) → 6 - x11.toInt < (n : Int) → (LPr g_m_off 0 ((v_m_armHigh_0.toInt - v_m_armLow_0.toInt + 1) * (v_m_poundHigh_0.toInt - v_m_poundLow_0.toInt + 1) * (v_m_poundHigh_1.toInt - v_m_poundLow_1.toInt + 1)) x11 y12) → va_P G cl [(a8, .inl (cI, 2, .inl (ex2 v_m_armHigh_0 v_m_armHigh_1))), (a7, .inl (cI, 2, .inl (ex2 v_m_armLow_0 v_m_armLow_1))), (a15, .inl (cI, 12, .inl g_m_off)), (a12, .inl (cI, 2, .inl (ex2 v_m_stones_0 v_m_stones_1))), (a0, .inr (10, [.ref a1, .ref a2, .int v_m_2, .int v_m_3, .int v_m_4, .int v_m_5, .int v_m_6, .int v_m_7, .int v_m_8, .int v_m_9, .long w_m_10, .ref a3, .ref a4, .ref a5, .ref a6, .ref a7, .ref a8, .ref a9, .ref a10, .ref a11, .ref a12, .ref a13, .ref a14, .ref a15, .ref a16, .ref a17, .ref a18, .ref a19, .ref a20, .ref a21, .ref a22, .ref a23, .ref a24, .ref a25, .ref a26, .ref a27, .ref a28, .ref a29, .ref a30, .ref a31, .int 0, .int v_m_41, .ref a32, .ref a33, .int v_m_44, .int v_m_45, .int v_m_46, .int v_m_47, .ref a34, .int v_m_49, .ref a35, .ref a36, .ref a37, .int v_m_53, .int v_m_54, .int v_m_55, .int v_m_56, .int v_m_57, .int v_m_58, .int v_m_59, .int v_m_60, .ref a38, .int v_m_62, .ref a39, .ref a40, .ref a41, .ref a42, .int v_m_67, .int v_m_68])), (a10, .inl (cI, 4, .inl (ex4 v_m_poundLow_0 v_m_poundLow_1 v_m_poundLow_2 v_m_poundLow_3))), (a11, .inl (cI, 4, .inl (ex4 v_m_poundHigh_0 v_m_poundHigh_1 v_m_poundHigh_2 v_m_poundHigh_3)))] H → va_D A [(a8, .inl (cI, 2, .inl (ex2 v_m_armHigh_0 v_m_armHigh_1))), (a7, .inl (cI, 2, .inl (ex2 v_m_armLow_0 v_m_armLow_1))), (a15, .inl (cI, 12, .inl g_m_off)), (a12, .inl (cI, 2, .inl (ex2 v_m_stones_0 v_m_stones_1))), (a0, .inr (10, [.ref a1, .ref a2, .int v_m_2, .int v_m_3, .int v_m_4, .int v_m_5, .int v_m_6, .int v_m_7, .int v_m_8, .int v_m_9, .long w_m_10, .ref a3, .ref a4, .ref a5, .ref a6, .ref a7, .ref a8, .ref a9, .ref a10, .ref a11, .ref a12, .ref a13, .ref a14, .ref a15, .ref a16, .ref a17, .ref a18, .ref a19, .ref a20, .ref a21, .ref a22, .ref a23, .ref a24, .ref a25, .ref a26, .ref a27, .ref a28, .ref a29, .ref a30, .ref a31, .int 0, .int v_m_41, .ref a32, .ref a33, .int v_m_44, .int v_m_45, .int v_m_46, .int v_m_47, .ref a34, .int v_m_49, .ref a35, .ref a36, .ref a37, .int v_m_53, .int v_m_54, .int v_m_55, .int v_m_56, .int v_m_57, .int v_m_58, .int v_m_59, .int v_m_60, .ref a38, .int v_m_62, .ref a39, .ref a40, .ref a41, .ref a42, .int v_m_67, .int v_m_68])), (a10, .inl (cI, 4, .inl (ex4 v_m_poundLow_0 v_m_poundLow_1 v_m_poundLow_2 v_m_poundLow_3))), (a11, .inl (cI, 4, .inl (ex4 v_m_poundHigh_0 v_m_poundHigh_1 v_m_poundHigh_2 v_m_poundHigh_3)))] → va_S A s.heap H locs → lv_has ls 4 [(0, .ref a0), (1, .long y12), (3, .int x11)] → W p l e ({ frames := 2, cells := 0, slots := 0, locals := 42 } : Room) s m args below meth c H locs 0 0 Qm (F0 m 39 ls []) := by
    intro n
    induction n with
    | zero => intro x11 y12 H locs ls hv hm; omega
    | succ n ih =>
      intro x11 y12 H locs ls hv hm hLP hP hD hS hl
      refine lv_iload_n hx hb dX10_product_39 rfl (lv_at hl 2 rfl) ?_
      refine lv_aload_n hx hb dX10_product_40 rfl (lv_at hl 0 rfl) ?_
      refine k_ci (wr := [(a8, .inl (cI, 2, .inl (ex2 v_m_armHigh_0 v_m_armHigh_1))), (a7, .inl (cI, 2, .inl (ex2 v_m_armLow_0 v_m_armLow_1))), (a15, .inl (cI, 12, .inl g_m_off)), (a10, .inl (cI, 4, .inl (ex4 v_m_poundLow_0 v_m_poundLow_1 v_m_poundLow_2 v_m_poundLow_3))), (a11, .inl (cI, 4, .inl (ex4 v_m_poundHigh_0 v_m_poundHigh_1 v_m_poundHigh_2 v_m_poundHigh_3)))]) (k_rV hC hN hZ hS hA hK hP hD (c4_X10_many l G cI cJ cB cZ a0 a1 a2 a3 a4 a5 a6 a7 a8 a9 a10 a11 a12 a13 a14 a15 a16 a17 a18 a19 a20 a21 a22 a23 a24 a25 a26 a27 a28 a29 a30 a31 a32 a33 a34 a35 a36 a37 a38 a39 a40 a41 a42 v_m_2 v_m_3 v_m_4 v_m_5 v_m_6 v_m_7 v_m_8 v_m_9 w_m_10 v_m_41 v_m_44 v_m_45 v_m_46 v_m_47 v_m_49 v_m_53 v_m_54 v_m_55 v_m_56 v_m_57 v_m_58 v_m_59 v_m_60 v_m_62 v_m_67 v_m_68 v_m_stones_0 v_m_stones_1 hv_0 hv_1 hv_2 hv_3 hv_4 hv_5 hv_6 hv_7 hv_8 hv_9 hv_10 hv_11 hv_12 hv_13 hv_14 hv_15 hv_16 hv_17 hv_18 hv_19 hv_20 hv_21 hv_22 hv_23 hv_24 hv_25 hv_26 hv_27 hv_28 hv_29 hv_30 hv_55 hv_56 hv_57 hv_58) [4, 3] rfl (by decide +kernel) mi_X10_many in_X10_many se_X10_many wm_X10_304 10 4 rfl rfl rfl hl.1 rfl rfl (Nat.le_of_ble_eq_true rfl) ⟨(Nat.le_of_ble_eq_true rfl), (Nat.le_of_ble_eq_true rfl)⟩ dX10_product_41 ⟨(Nat.le_of_ble_eq_true rfl), (Nat.le_of_ble_eq_true rfl)⟩) hP hD hS hA [4, 3] [0, 1, 2, 5, 6] rfl rfl (by decide +kernel) (by decide +kernel) (fun r13 u13 H locs hp hP hD hS => ?_)
      have hp : (0 ≤ r13.toInt ∧ r13.toInt ≤ 6 ∧ (r13.toInt = v_m_stones_0.toInt)) := hp
      have hP : va_P G cl [(a8, .inl (cI, 2, .inl (ex2 v_m_armHigh_0 v_m_armHigh_1))), (a7, .inl (cI, 2, .inl (ex2 v_m_armLow_0 v_m_armLow_1))), (a15, .inl (cI, 12, .inl g_m_off)), (a10, .inl (cI, 4, .inl (ex4 v_m_poundLow_0 v_m_poundLow_1 v_m_poundLow_2 v_m_poundLow_3))), (a11, .inl (cI, 4, .inl (ex4 v_m_poundHigh_0 v_m_poundHigh_1 v_m_poundHigh_2 v_m_poundHigh_3))), (a0, .inr (10, [.ref a1, .ref a2, .int v_m_2, .int v_m_3, .int v_m_4, .int v_m_5, .int v_m_6, .int v_m_7, .int v_m_8, .int v_m_9, .long w_m_10, .ref a3, .ref a4, .ref a5, .ref a6, .ref a7, .ref a8, .ref a9, .ref a10, .ref a11, .ref a12, .ref a13, .ref a14, .ref a15, .ref a16, .ref a17, .ref a18, .ref a19, .ref a20, .ref a21, .ref a22, .ref a23, .ref a24, .ref a25, .ref a26, .ref a27, .ref a28, .ref a29, .ref a30, .ref a31, .int 0, .int v_m_41, .ref a32, .ref a33, .int v_m_44, .int v_m_45, .int v_m_46, .int v_m_47, .ref a34, .int v_m_49, .ref a35, .ref a36, .ref a37, .int v_m_53, .int v_m_54, .int v_m_55, .int v_m_56, .int v_m_57, .int v_m_58, .int v_m_59, .int v_m_60, .ref a38, .int v_m_62, .ref a39, .ref a40, .ref a41, .ref a42, .int v_m_67, .int v_m_68])), (a12, .inl (cI, 2, .inl (ex2 v_m_stones_0 v_m_stones_1)))] H := hP
      have hD : va_D A [(a8, .inl (cI, 2, .inl (ex2 v_m_armHigh_0 v_m_armHigh_1))), (a7, .inl (cI, 2, .inl (ex2 v_m_armLow_0 v_m_armLow_1))), (a15, .inl (cI, 12, .inl g_m_off)), (a10, .inl (cI, 4, .inl (ex4 v_m_poundLow_0 v_m_poundLow_1 v_m_poundLow_2 v_m_poundLow_3))), (a11, .inl (cI, 4, .inl (ex4 v_m_poundHigh_0 v_m_poundHigh_1 v_m_poundHigh_2 v_m_poundHigh_3))), (a0, .inr (10, [.ref a1, .ref a2, .int v_m_2, .int v_m_3, .int v_m_4, .int v_m_5, .int v_m_6, .int v_m_7, .int v_m_8, .int v_m_9, .long w_m_10, .ref a3, .ref a4, .ref a5, .ref a6, .ref a7, .ref a8, .ref a9, .ref a10, .ref a11, .ref a12, .ref a13, .ref a14, .ref a15, .ref a16, .ref a17, .ref a18, .ref a19, .ref a20, .ref a21, .ref a22, .ref a23, .ref a24, .ref a25, .ref a26, .ref a27, .ref a28, .ref a29, .ref a30, .ref a31, .int 0, .int v_m_41, .ref a32, .ref a33, .int v_m_44, .int v_m_45, .int v_m_46, .int v_m_47, .ref a34, .int v_m_49, .ref a35, .ref a36, .ref a37, .int v_m_53, .int v_m_54, .int v_m_55, .int v_m_56, .int v_m_57, .int v_m_58, .int v_m_59, .int v_m_60, .ref a38, .int v_m_62, .ref a39, .ref a40, .ref a41, .ref a42, .int v_m_67, .int v_m_68])), (a12, .inl (cI, 2, .inl (ex2 v_m_stones_0 v_m_stones_1)))] := hD
      have hq13 := hp
      refine lv_icmp_ge (tgt := 62) hx hb dX10_product_44 (by decide) (fun c14 => ?_) (fun c14 => ?_)
      · have dc14 : r13.toInt ≤ x11.toInt := (fa_le _ _).mp c14
        refine lv_lload_n hx hb dX10_product_62 rfl (lv_at hl 1 rfl) ?_
        rw [← hQm]
        exact k_lret hC hr hlk hK hP hD hS () [5, 0, 1, 4, 3, 2, 6] rfl (by decide +kernel) ⟨trivial, (show y12.toInt = ((v_m_armHigh_0.toInt - v_m_armLow_0.toInt + 1) * (v_m_poundHigh_0.toInt - v_m_poundLow_0.toInt + 1) * (v_m_poundHigh_1.toInt - v_m_poundLow_1.toInt + 1)) * PP g_m_off 0 v_m_stones_0.toInt.toNat ∧ 1 ≤ y12.toInt from by exact LPr.fin hLP (by omega))⟩ (Nat.le_of_ble_eq_true rfl) (Nat.le_of_ble_eq_true rfl) dX10_product_63
      · have dc14 : x11.toInt < r13.toInt := fa_nle c14
        refine lv_lload_n hx hb dX10_product_47 rfl (lv_at hl 1 rfl) ?_
        refine lv_aload_n hx hb dX10_product_48 rfl (lv_at hl 0 rfl) ?_
        refine lv_iload_n hx hb dX10_product_49 rfl (lv_at hl 2 rfl) ?_
        refine k_ci (wr := [(a8, .inl (cI, 2, .inl (ex2 v_m_armHigh_0 v_m_armHigh_1))), (a7, .inl (cI, 2, .inl (ex2 v_m_armLow_0 v_m_armLow_1))), (a10, .inl (cI, 4, .inl (ex4 v_m_poundLow_0 v_m_poundLow_1 v_m_poundLow_2 v_m_poundLow_3))), (a11, .inl (cI, 4, .inl (ex4 v_m_poundHigh_0 v_m_poundHigh_1 v_m_poundHigh_2 v_m_poundHigh_3))), (a12, .inl (cI, 2, .inl (ex2 v_m_stones_0 v_m_stones_1)))]) (k_rV hC hN hZ hS hA hK hP hD (c19_X10_wide l G cI cJ cB cZ a0 a1 a2 a3 a4 a5 a6 a7 a8 a9 a10 a11 a12 a13 a14 a15 a16 a17 a18 a19 a20 a21 a22 a23 a24 a25 a26 a27 a28 a29 a30 a31 a32 a33 a34 a35 a36 a37 a38 a39 a40 a41 a42 x11 v_m_2 v_m_3 v_m_4 v_m_5 v_m_6 v_m_7 v_m_8 v_m_9 w_m_10 v_m_41 v_m_44 v_m_45 v_m_46 v_m_47 v_m_49 v_m_53 v_m_54 v_m_55 v_m_56 v_m_57 v_m_58 v_m_59 v_m_60 v_m_62 v_m_67 v_m_68 g_m_off (by omega) (by omega) hv_0 hv_1 hv_2 hv_3 hv_4 hv_5 hv_6 hv_7 hv_8 hv_9 hv_10 hv_11 hv_12 hv_13 hv_14 hv_15 hv_16 hv_17 hv_18 hv_19 hv_20 hv_21 hv_22 hv_23 hv_24 hv_25 hv_26 hv_27 hv_28 hv_29 hv_30 hT_g_m_off) [5, 2] rfl (by decide +kernel) mi_X10_wide in_X10_wide se_X10_wide wm_X10_335 10 5 rfl rfl rfl hl.1 rfl rfl (Nat.le_of_ble_eq_true rfl) ⟨(Nat.le_of_ble_eq_true rfl), (Nat.le_of_ble_eq_true rfl)⟩ dX10_product_50 ⟨(Nat.le_of_ble_eq_true rfl), (Nat.le_of_ble_eq_true rfl)⟩) hP hD hS hA [5, 2] [0, 1, 3, 4, 6] rfl rfl (by decide +kernel) (by decide +kernel) (fun r15 u15 H locs hp hP hD hS => ?_)
        obtain ⟨hp, ep_50⟩ : (1 ≤ r15.toInt ∧ r15.toInt ≤ 9) ∧ (r15.toInt = wdI g_m_off 0 x11.toInt) := hp
        have hP : va_P G cl [(a8, .inl (cI, 2, .inl (ex2 v_m_armHigh_0 v_m_armHigh_1))), (a7, .inl (cI, 2, .inl (ex2 v_m_armLow_0 v_m_armLow_1))), (a10, .inl (cI, 4, .inl (ex4 v_m_poundLow_0 v_m_poundLow_1 v_m_poundLow_2 v_m_poundLow_3))), (a11, .inl (cI, 4, .inl (ex4 v_m_poundHigh_0 v_m_poundHigh_1 v_m_poundHigh_2 v_m_poundHigh_3))), (a12, .inl (cI, 2, .inl (ex2 v_m_stones_0 v_m_stones_1))), (a0, .inr (10, [.ref a1, .ref a2, .int v_m_2, .int v_m_3, .int v_m_4, .int v_m_5, .int v_m_6, .int v_m_7, .int v_m_8, .int v_m_9, .long w_m_10, .ref a3, .ref a4, .ref a5, .ref a6, .ref a7, .ref a8, .ref a9, .ref a10, .ref a11, .ref a12, .ref a13, .ref a14, .ref a15, .ref a16, .ref a17, .ref a18, .ref a19, .ref a20, .ref a21, .ref a22, .ref a23, .ref a24, .ref a25, .ref a26, .ref a27, .ref a28, .ref a29, .ref a30, .ref a31, .int 0, .int v_m_41, .ref a32, .ref a33, .int v_m_44, .int v_m_45, .int v_m_46, .int v_m_47, .ref a34, .int v_m_49, .ref a35, .ref a36, .ref a37, .int v_m_53, .int v_m_54, .int v_m_55, .int v_m_56, .int v_m_57, .int v_m_58, .int v_m_59, .int v_m_60, .ref a38, .int v_m_62, .ref a39, .ref a40, .ref a41, .ref a42, .int v_m_67, .int v_m_68])), (a15, .inl (cI, 12, .inl g_m_off))] H := hP
        have hD : va_D A [(a8, .inl (cI, 2, .inl (ex2 v_m_armHigh_0 v_m_armHigh_1))), (a7, .inl (cI, 2, .inl (ex2 v_m_armLow_0 v_m_armLow_1))), (a10, .inl (cI, 4, .inl (ex4 v_m_poundLow_0 v_m_poundLow_1 v_m_poundLow_2 v_m_poundLow_3))), (a11, .inl (cI, 4, .inl (ex4 v_m_poundHigh_0 v_m_poundHigh_1 v_m_poundHigh_2 v_m_poundHigh_3))), (a12, .inl (cI, 2, .inl (ex2 v_m_stones_0 v_m_stones_1))), (a0, .inr (10, [.ref a1, .ref a2, .int v_m_2, .int v_m_3, .int v_m_4, .int v_m_5, .int v_m_6, .int v_m_7, .int v_m_8, .int v_m_9, .long w_m_10, .ref a3, .ref a4, .ref a5, .ref a6, .ref a7, .ref a8, .ref a9, .ref a10, .ref a11, .ref a12, .ref a13, .ref a14, .ref a15, .ref a16, .ref a17, .ref a18, .ref a19, .ref a20, .ref a21, .ref a22, .ref a23, .ref a24, .ref a25, .ref a26, .ref a27, .ref a28, .ref a29, .ref a30, .ref a31, .int 0, .int v_m_41, .ref a32, .ref a33, .int v_m_44, .int v_m_45, .int v_m_46, .int v_m_47, .ref a34, .int v_m_49, .ref a35, .ref a36, .ref a37, .int v_m_53, .int v_m_54, .int v_m_55, .int v_m_56, .int v_m_57, .int v_m_58, .int v_m_59, .int v_m_60, .ref a38, .int v_m_62, .ref a39, .ref a40, .ref a41, .ref a42, .int v_m_67, .int v_m_68])), (a15, .inl (cI, 12, .inl g_m_off))] := hD
        have hq15 := hp
        refine lv_i2l hx hb dX10_product_53 rfl ?_
        refine t_lX (fun q => q.toInt = r15.toInt) (Int32.toInt_toInt64 _) (fun y16 ar_53 => ?_)
        refine lv_lmul hx hb dX10_product_54 ?_
        refine t_lX (fun q => q = y12 * y16) rfl (fun y17 ar_54 => ?_)
        refine lv_lstore_n (lv' := [(1, .long y17), (0, .ref a0), (3, .int x11)]) hx hb dX10_product_55 rfl hl (by decide) rfl (fun ls hl => ?_)
        obtain ⟨z18, ez18⟩ : ∃ q : Int32, q = x11 + Int32.ofInt 1 := ⟨_, rfl⟩
        have tz18 : z18.toInt = x11.toInt + 1 := by rw [ez18]; exact add_i (y := 1) (by have p_ := i_lo x11; show _ ≤ _ + (1 : Int); omega) (by have q_ := i_hi x11; show _ + (1 : Int) ≤ _; omega)
        refine lv_iinc (v := z18) (lv' := [(3, .int z18), (1, .long y17), (0, .ref a0)]) hx hb dX10_product_56 hl (k := 2) rfl ez18.symm (by decide) rfl (fun ls hl => ?_)
        refine lv_goto (tgt := 39) hx hb dX10_product_59 (by decide) ?_
        exact ih  z18 y17 H locs ls (by omega) (by omega) (by exact LPr.step hT_g_m_off hLP (by omega) (by omega) ep_50 ar_53 ar_54 (by omega)) (hP.subm [0, 1, 6, 4, 5, 2, 3] rfl) (hD.sub [0, 1, 6, 4, 5, 2, 3] (by decide +kernel) rfl) hS (lv_sub hl [2, 1, 0] rfl)
  have l_l19 : (0 : Int32).toInt = 0 := rfl
  exact L_39 7 0 y10 H locs ls (by omega) (by omega) (by exact LPr.start (by omega) (by omega) (by omega) (by omega) (by omega) ar_28 (by omega) ar_35 rfl) (hP.subm [0, 1, 2, 3, 4, 5, 6] rfl) (hD.sub [0, 1, 2, 3, 4, 5, 6] (by decide +kernel) rfl) hS (lv_sub hl [2, 1, 0] rfl)

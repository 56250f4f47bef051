def sp_end (n : Int32) : Int32 := if n.toInt = 0 then 0 else -1
def sp_later (n : Int32) : Int32 := if 0 ≤ n.toInt ∧ n.toInt ≤ 1000 then n else -1
def sp_in10 (n : Int32) : Int32 := if 0 ≤ n.toInt ∧ n.toInt ≤ 9 then 1 else 0
def sp_fit (i w : Int32) : Int32 := if 0 ≤ w.toInt ∧ w.toInt ≤ 2 ∧ i.toInt = 0 then (if w.toInt = 0 then 100 else 16) else -1
def sp_span (w : Int32) : Int32 := if 0 ≤ w.toInt ∧ w.toInt ≤ 2 then (if w.toInt = 0 then 100 else 16) else -1
def sp_debt (n : Int32) : Int32 := if 0 ≤ n.toInt ∧ n.toInt ≤ 9 then 0 else -2000000000
def sp_about (n : Int32) : Int32 := if 0 ≤ n.toInt ∧ n.toInt ≤ 6 then 0 else -1
theorem dX5_putFour_0 : decode cX5_putFour 0 = .ok (.bipush 24, 2) := by decide +kernel
theorem dX5_putFour_2 : decode cX5_putFour 2 = .ok (.istore_n 2, 1) := by decide +kernel
theorem dX5_putFour_3 : decode cX5_putFour 3 = .ok (.iload_n 2, 1) := by decide +kernel
theorem dX5_putFour_4 : decode cX5_putFour 4 = .ok (.ifCond .lt 42, 3) := by decide +kernel
theorem dX5_putFour_7 : decode cX5_putFour 7 = .ok (.aload_n 0, 1) := by decide +kernel
theorem dX5_putFour_8 : decode cX5_putFour 8 = .ok (.getfield 15, 3) := by decide +kernel
theorem dX5_putFour_11 : decode cX5_putFour 11 = .ok (.sipush 1300, 3) := by decide +kernel
theorem dX5_putFour_14 : decode cX5_putFour 14 = .ok (.if_icmp .ge 26, 3) := by decide +kernel
theorem dX5_putFour_17 : decode cX5_putFour 17 = .ok (.aload_n 0, 1) := by decide +kernel
theorem dX5_putFour_18 : decode cX5_putFour 18 = .ok (.getfield 9, 3) := by decide +kernel
theorem dX5_putFour_21 : decode cX5_putFour 21 = .ok (.aload_n 0, 1) := by decide +kernel
theorem dX5_putFour_22 : decode cX5_putFour 22 = .ok (.getfield 15, 3) := by decide +kernel
theorem dX5_putFour_25 : decode cX5_putFour 25 = .ok (.iload_n 1, 1) := by decide +kernel
theorem dX5_putFour_26 : decode cX5_putFour 26 = .ok (.iload_n 2, 1) := by decide +kernel
theorem dX5_putFour_27 : decode cX5_putFour 27 = .ok (.ishr, 1) := by decide +kernel
theorem dX5_putFour_28 : decode cX5_putFour 28 = .ok (.i2b, 1) := by decide +kernel
theorem dX5_putFour_29 : decode cX5_putFour 29 = .ok (.bastore, 1) := by decide +kernel
theorem dX5_putFour_30 : decode cX5_putFour 30 = .ok (.aload_n 0, 1) := by decide +kernel
theorem dX5_putFour_31 : decode cX5_putFour 31 = .ok (.dup, 1) := by decide +kernel
theorem dX5_putFour_32 : decode cX5_putFour 32 = .ok (.getfield 15, 3) := by decide +kernel
theorem dX5_putFour_35 : decode cX5_putFour 35 = .ok (.iconst 1, 1) := by decide +kernel
theorem dX5_putFour_36 : decode cX5_putFour 36 = .ok (.iadd, 1) := by decide +kernel
theorem dX5_putFour_37 : decode cX5_putFour 37 = .ok (.putfield 15, 3) := by decide +kernel
theorem dX5_putFour_40 : decode cX5_putFour 40 = .ok (.iinc 2 (-8), 3) := by decide +kernel
theorem dX5_putFour_43 : decode cX5_putFour 43 = .ok (.goto (-40), 3) := by decide +kernel
theorem dX5_putFour_46 : decode cX5_putFour 46 = .ok (.return_, 1) := by decide +kernel
set_option maxHeartbeats 4000000 in
set_option maxRecDepth 100000 in
theorem c14_X5_putFour (l : Launch) (G : va_G) (cI cJ cB cZ : ClassId) (a0 a1 : Nat) (x0 : Int32) : Con l G (TY cI cJ cB cZ) yX5_putFour cX5_putFour 3 none ({ frames := 0, cells := 0, slots := 0, locals := 0 } : Room) [.ref a0, .int x0] [(a0, .inr (5, [.ref a1, .int 0, .int 0, .int 0, .int 0, .long 0, .int 0])), (a1, .inl (cB, 1300, .inl (fun _ => 0)))] (QV G (TY cI cJ cB cZ) (fun u : (Nat → Int32) => True) (fun u : (Nat → Int32) => [(a0, .inr (5, [.ref a1, .int 4, .int 0, .int 0, .int 0, .long 0, .int 0])), (a1, .inl (cB, 1300, .inl u))])) := by
  refine k_met (by decide) (Nat.le_of_ble_eq_true rfl) ?_
  intro p e s m below meth c A ls hC hr hlk hnm hN hK hA hP hD hS hl
  have hl : lv_has ls 3 [(0, .ref a0), (1, .int x0)] := hl
  obtain ⟨hx, hb, hml, hown, hts⟩ := id hC
  refine lv_bipush (v := 24) hx hb dX5_putFour_0 (by decide) ?_
  refine lv_istore_n (lv' := [(2, .int 24), (0, .ref a0), (1, .int x0)]) hx hb dX5_putFour_2 rfl hl (by decide) rfl (fun ls hl => ?_)
  refine lv_iload_n hx hb dX5_putFour_3 rfl (lv_at hl 0 rfl) ?_
  refine lv_if_lt (tgt := 46) hx hb dX5_putFour_4 (by decide) (fun c_ => absurd c_ (by decide +kernel)) (fun _ => ?_)
  refine lv_aload_n hx hb dX5_putFour_7 rfl (lv_at hl 1 rfl) ?_
  refine k_get hC hK hP iX5 0 1 wf_X5_15 rfl (by decide) rfl rfl dX5_putFour_8 ?_
  refine lv_sipush (v := 1300) hx hb dX5_putFour_11 (by decide) ?_
  refine lv_icmp_ge (tgt := 40) hx hb dX5_putFour_14 (by decide) (fun c_ => absurd c_ (by decide +kernel)) (fun _ => ?_)
  refine lv_aload_n hx hb dX5_putFour_17 rfl (lv_at hl 1 rfl) ?_
  refine k_get hC hK hP iX5 0 0 wf_X5_9 rfl (by decide) rfl rfl dX5_putFour_18 ?_
  refine lv_aload_n hx hb dX5_putFour_21 rfl (lv_at hl 1 rfl) ?_
  refine k_get hC hK hP iX5 0 1 wf_X5_15 rfl (by decide) rfl rfl dX5_putFour_22 ?_
  refine lv_iload_n hx hb dX5_putFour_25 rfl (lv_at hl 2 rfl) ?_
  refine lv_iload_n hx hb dX5_putFour_26 rfl (lv_at hl 0 rfl) ?_
  refine lv_ishr hx hb dX5_putFour_27 ?_
  refine lv_i2b (v := ((x0 >>> (24 &&& 31)).toInt8.toInt32)) hx hb dX5_putFour_28 rfl ?_
  refine k_bast hC hK hP hD hS 1 0 (vp_nar .byte ((x0 >>> (24 &&& 31)).toInt8.toInt32)) rfl (by decide +kernel) (by decide) rfl dX5_putFour_29 (fun H locs hP hD hS => ?_)
  have hP : va_P G cl [(a0, .inr (5, [.ref a1, .int 0, .int 0, .int 0, .int 0, .long 0, .int 0])), (a1, .inl (cB, 1300, .inl (upd (fun _ => 0) 0 (vp_nar .byte ((x0 >>> (24 &&& 31)).toInt8.toInt32)))))] H := hP
  have hD : va_D A [(a0, .inr (5, [.ref a1, .int 0, .int 0, .int 0, .int 0, .long 0, .int 0])), (a1, .inl (cB, 1300, .inl (upd (fun _ => 0) 0 (vp_nar .byte ((x0 >>> (24 &&& 31)).toInt8.toInt32)))))] := hD
  refine lv_aload_n hx hb dX5_putFour_30 rfl (lv_at hl 1 rfl) ?_
  refine lv_dup hx hb dX5_putFour_31 rfl ?_
  refine k_get hC hK hP iX5 0 1 wf_X5_15 rfl (by decide) rfl rfl dX5_putFour_32 ?_
  refine lv_iconst (v := 1) hx hb dX5_putFour_35 (by decide) ?_
  refine lv_iadd hx hb dX5_putFour_36 ?_
  refine k_i 1 (by decide +kernel) ?_
  refine k_put hC hK hP hD hS iX5 tyX5_ok nmX5 0 1 wf_X5_15 rfl (by decide) rfl rfl rfl rfl (Nat.le_of_ble_eq_true rfl) dX5_putFour_37 (fun H locs hP hD hS => ?_)
  have hP : va_P G cl [(a0, .inr (5, [.ref a1, .int 1, .int 0, .int 0, .int 0, .long 0, .int 0])), (a1, .inl (cB, 1300, .inl (upd (fun _ => 0) 0 (vp_nar .byte ((x0 >>> (24 &&& 31)).toInt8.toInt32)))))] H := hP
  have hD : va_D A [(a0, .inr (5, [.ref a1, .int 1, .int 0, .int 0, .int 0, .long 0, .int 0])), (a1, .inl (cB, 1300, .inl (upd (fun _ => 0) 0 (vp_nar .byte ((x0 >>> (24 &&& 31)).toInt8.toInt32)))))] := hD
  refine lv_iinc (v := 16) (lv' := [(2, .int 16), (0, .ref a0), (1, .int x0)]) hx hb dX5_putFour_40 hl (k := 0) rfl (by decide +kernel) (by decide) rfl (fun ls hl => ?_)
  refine lv_goto (tgt := 3) hx hb dX5_putFour_43 (by decide) ?_
  refine lv_iload_n hx hb dX5_putFour_3 rfl (lv_at hl 0 rfl) ?_
  refine lv_if_lt (tgt := 46) hx hb dX5_putFour_4 (by decide) (fun c_ => absurd c_ (by decide +kernel)) (fun _ => ?_)
  refine lv_aload_n hx hb dX5_putFour_7 rfl (lv_at hl 1 rfl) ?_
  refine k_get hC hK hP iX5 0 1 wf_X5_15 rfl (by decide) rfl rfl dX5_putFour_8 ?_
  refine lv_sipush (v := 1300) hx hb dX5_putFour_11 (by decide) ?_
  refine lv_icmp_ge (tgt := 40) hx hb dX5_putFour_14 (by decide) (fun c_ => absurd c_ (by decide +kernel)) (fun _ => ?_)
  refine lv_aload_n hx hb dX5_putFour_17 rfl (lv_at hl 1 rfl) ?_
  refine k_get hC hK hP iX5 0 0 wf_X5_9 rfl (by decide) rfl rfl dX5_putFour_18 ?_
  refine lv_aload_n hx hb dX5_putFour_21 rfl (lv_at hl 1 rfl) ?_
  refine k_get hC hK hP iX5 0 1 wf_X5_15 rfl (by decide) rfl rfl dX5_putFour_22 ?_
  refine lv_iload_n hx hb dX5_putFour_25 rfl (lv_at hl 2 rfl) ?_
  refine lv_iload_n hx hb dX5_putFour_26 rfl (lv_at hl 0 rfl) ?_
  refine lv_ishr hx hb dX5_putFour_27 ?_
  refine lv_i2b (v := ((x0 >>> (16 &&& 31)).toInt8.toInt32)) hx hb dX5_putFour_28 rfl ?_
  refine k_bast hC hK hP hD hS 1 1 (vp_nar .byte ((x0 >>> (16 &&& 31)).toInt8.toInt32)) rfl (by decide +kernel) (by decide) rfl dX5_putFour_29 (fun H locs hP hD hS => ?_)
  have hP : va_P G cl [(a0, .inr (5, [.ref a1, .int 1, .int 0, .int 0, .int 0, .long 0, .int 0])), (a1, .inl (cB, 1300, .inl (upd (upd (fun _ => 0) 0 (vp_nar .byte ((x0 >>> (24 &&& 31)).toInt8.toInt32))) 1 (vp_nar .byte ((x0 >>> (16 &&& 31)).toInt8.toInt32)))))] H := hP
  have hD : va_D A [(a0, .inr (5, [.ref a1, .int 1, .int 0, .int 0, .int 0, .long 0, .int 0])), (a1, .inl (cB, 1300, .inl (upd (upd (fun _ => 0) 0 (vp_nar .byte ((x0 >>> (24 &&& 31)).toInt8.toInt32))) 1 (vp_nar .byte ((x0 >>> (16 &&& 31)).toInt8.toInt32)))))] := hD
  refine lv_aload_n hx hb dX5_putFour_30 rfl (lv_at hl 1 rfl) ?_
  refine lv_dup hx hb dX5_putFour_31 rfl ?_
  refine k_get hC hK hP iX5 0 1 wf_X5_15 rfl (by decide) rfl rfl dX5_putFour_32 ?_
  refine lv_iconst (v := 1) hx hb dX5_putFour_35 (by decide) ?_
  refine lv_iadd hx hb dX5_putFour_36 ?_
  refine k_i 2 (by decide +kernel) ?_
  refine k_put hC hK hP hD hS iX5 tyX5_ok nmX5 0 1 wf_X5_15 rfl (by decide) rfl rfl rfl rfl (Nat.le_of_ble_eq_true rfl) dX5_putFour_37 (fun H locs hP hD hS => ?_)
  have hP : va_P G cl [(a0, .inr (5, [.ref a1, .int 2, .int 0, .int 0, .int 0, .long 0, .int 0])), (a1, .inl (cB, 1300, .inl (upd (upd (fun _ => 0) 0 (vp_nar .byte ((x0 >>> (24 &&& 31)).toInt8.toInt32))) 1 (vp_nar .byte ((x0 >>> (16 &&& 31)).toInt8.toInt32)))))] H := hP
  have hD : va_D A [(a0, .inr (5, [.ref a1, .int 2, .int 0, .int 0, .int 0, .long 0, .int 0])), (a1, .inl (cB, 1300, .inl (upd (upd (fun _ => 0) 0 (vp_nar .byte ((x0 >>> (24 &&& 31)).toInt8.toInt32))) 1 (vp_nar .byte ((x0 >>> (16 &&& 31)).toInt8.toInt32)))))] := hD
  refine lv_iinc (v := 8) (lv' := [(2, .int 8), (0, .ref a0), (1, .int x0)]) hx hb dX5_putFour_40 hl (k := 0) rfl (by decide +kernel) (by decide) rfl (fun ls hl => ?_)
  refine lv_goto (tgt := 3) hx hb dX5_putFour_43 (by decide) ?_
  refine lv_iload_n hx hb dX5_putFour_3 rfl (lv_at hl 0 rfl) ?_
  refine lv_if_lt (tgt := 46) hx hb dX5_putFour_4 (by decide) (fun c_ => absurd c_ (by decide +kernel)) (fun _ => ?_)
  refine lv_aload_n hx hb dX5_putFour_7 rfl (lv_at hl 1 rfl) ?_
  refine k_get hC hK hP iX5 0 1 wf_X5_15 rfl (by decide) rfl rfl dX5_putFour_8 ?_
  refine lv_sipush (v := 1300) hx hb dX5_putFour_11 (by decide) ?_
  refine lv_icmp_ge (tgt := 40) hx hb dX5_putFour_14 (by decide) (fun c_ => absurd c_ (by decide +kernel)) (fun _ => ?_)
  refine lv_aload_n hx hb dX5_putFour_17 rfl (lv_at hl 1 rfl) ?_
  refine k_get hC hK hP iX5 0 0 wf_X5_9 rfl (by decide) rfl rfl dX5_putFour_18 ?_
  refine lv_aload_n hx hb dX5_putFour_21 rfl (lv_at hl 1 rfl) ?_
  refine k_get hC hK hP iX5 0 1 wf_X5_15 rfl (by decide) rfl rfl dX5_putFour_22 ?_
  refine lv_iload_n hx hb dX5_putFour_25 rfl (lv_at hl 2 rfl) ?_
  refine lv_iload_n hx hb dX5_putFour_26 rfl (lv_at hl 0 rfl) ?_
  refine lv_ishr hx hb dX5_putFour_27 ?_
  refine lv_i2b (v := ((x0 >>> (8 &&& 31)).toInt8.toInt32)) hx hb dX5_putFour_28 rfl ?_
  refine k_bast hC hK hP hD hS 1 2 (vp_nar .byte ((x0 >>> (8 &&& 31)).toInt8.toInt32)) rfl (by decide +kernel) (by decide) rfl dX5_putFour_29 (fun H locs hP hD hS => ?_)
  have hP : va_P G cl [(a0, .inr (5, [.ref a1, .int 2, .int 0, .int 0, .int 0, .long 0, .int 0])), (a1, .inl (cB, 1300, .inl (upd (upd (upd (fun _ => 0) 0 (vp_nar .byte ((x0 >>> (24 &&& 31)).toInt8.toInt32))) 1 (vp_nar .byte ((x0 >>> (16 &&& 31)).toInt8.toInt32))) 2 (vp_nar .byte ((x0 >>> (8 &&& 31)).toInt8.toInt32)))))] H := hP
  have hD : va_D A [(a0, .inr (5, [.ref a1, .int 2, .int 0, .int 0, .int 0, .long 0, .int 0])), (a1, .inl (cB, 1300, .inl (upd (upd (upd (fun _ => 0) 0 (vp_nar .byte ((x0 >>> (24 &&& 31)).toInt8.toInt32))) 1 (vp_nar .byte ((x0 >>> (16 &&& 31)).toInt8.toInt32))) 2 (vp_nar .byte ((x0 >>> (8 &&& 31)).toInt8.toInt32)))))] := hD
  refine lv_aload_n hx hb dX5_putFour_30 rfl (lv_at hl 1 rfl) ?_
  refine lv_dup hx hb dX5_putFour_31 rfl ?_
  refine k_get hC hK hP iX5 0 1 wf_X5_15 rfl (by decide) rfl rfl dX5_putFour_32 ?_
  refine lv_iconst (v := 1) hx hb dX5_putFour_35 (by decide) ?_
  refine lv_iadd hx hb dX5_putFour_36 ?_
  refine k_i 3 (by decide +kernel) ?_
  refine k_put hC hK hP hD hS iX5 tyX5_ok nmX5 0 1 wf_X5_15 rfl (by decide) rfl rfl rfl rfl (Nat.le_of_ble_eq_true rfl) dX5_putFour_37 (fun H locs hP hD hS => ?_)
  have hP : va_P G cl [(a0, .inr (5, [.ref a1, .int 3, .int 0, .int 0, .int 0, .long 0, .int 0])), (a1, .inl (cB, 1300, .inl (upd (upd (upd (fun _ => 0) 0 (vp_nar .byte ((x0 >>> (24 &&& 31)).toInt8.toInt32))) 1 (vp_nar .byte ((x0 >>> (16 &&& 31)).toInt8.toInt32))) 2 (vp_nar .byte ((x0 >>> (8 &&& 31)).toInt8.toInt32)))))] H := hP
  have hD : va_D A [(a0, .inr (5, [.ref a1, .int 3, .int 0, .int 0, .int 0, .long 0, .int 0])), (a1, .inl (cB, 1300, .inl (upd (upd (upd (fun _ => 0) 0 (vp_nar .byte ((x0 >>> (24 &&& 31)).toInt8.toInt32))) 1 (vp_nar .byte ((x0 >>> (16 &&& 31)).toInt8.toInt32))) 2 (vp_nar .byte ((x0 >>> (8 &&& 31)).toInt8.toInt32)))))] := hD
  refine lv_iinc (v := 0) (lv' := [(2, .int 0), (0, .ref a0), (1, .int x0)]) hx hb dX5_putFour_40 hl (k := 0) rfl (by decide +kernel) (by decide) rfl (fun ls hl => ?_)
  refine lv_goto (tgt := 3) hx hb dX5_putFour_43 (by decide) ?_
  refine lv_iload_n hx hb dX5_putFour_3 rfl (lv_at hl 0 rfl) ?_
  refine lv_if_lt (tgt := 46) hx hb dX5_putFour_4 (by decide) (fun c_ => absurd c_ (by decide +kernel)) (fun _ => ?_)
  refine lv_aload_n hx hb dX5_putFour_7 rfl (lv_at hl 1 rfl) ?_
  refine k_get hC hK hP iX5 0 1 wf_X5_15 rfl (by decide) rfl rfl dX5_putFour_8 ?_
  refine lv_sipush (v := 1300) hx hb dX5_putFour_11 (by decide) ?_
  refine lv_icmp_ge (tgt := 40) hx hb dX5_putFour_14 (by decide) (fun c_ => absurd c_ (by decide +kernel)) (fun _ => ?_)
  refine lv_aload_n hx hb dX5_putFour_17 rfl (lv_at hl 1 rfl) ?_
  refine k_get hC hK hP iX5 0 0 wf_X5_9 rfl (by decide) rfl rfl dX5_putFour_18 ?_
  refine lv_aload_n hx hb dX5_putFour_21 rfl (lv_at hl 1 rfl) ?_
  refine k_get hC hK hP iX5 0 1 wf_X5_15 rfl (by decide) rfl rfl dX5_putFour_22 ?_
  refine lv_iload_n hx hb dX5_putFour_25 rfl (lv_at hl 2 rfl) ?_
  refine lv_iload_n hx hb dX5_putFour_26 rfl (lv_at hl 0 rfl) ?_
  refine lv_ishr hx hb dX5_putFour_27 ?_
  refine lv_i2b (v := ((x0 >>> (0 &&& 31)).toInt8.toInt32)) hx hb dX5_putFour_28 rfl ?_
  refine k_bast hC hK hP hD hS 1 3 (vp_nar .byte ((x0 >>> (0 &&& 31)).toInt8.toInt32)) rfl (by decide +kernel) (by decide) rfl dX5_putFour_29 (fun H locs hP hD hS => ?_)
  have hP : va_P G cl [(a0, .inr (5, [.ref a1, .int 3, .int 0, .int 0, .int 0, .long 0, .int 0])), (a1, .inl (cB, 1300, .inl (upd (upd (upd (upd (fun _ => 0) 0 (vp_nar .byte ((x0 >>> (24 &&& 31)).toInt8.toInt32))) 1 (vp_nar .byte ((x0 >>> (16 &&& 31)).toInt8.toInt32))) 2 (vp_nar .byte ((x0 >>> (8 &&& 31)).toInt8.toInt32))) 3 (vp_nar .byte ((x0 >>> (0 &&& 31)).toInt8.toInt32)))))] H := hP
  have hD : va_D A [(a0, .inr (5, [.ref a1, .int 3, .int 0, .int 0, .int 0, .long 0, .int 0])), (a1, .inl (cB, 1300, .inl (upd (upd (upd (upd (fun _ => 0) 0 (vp_nar .byte ((x0 >>> (24 &&& 31)).toInt8.toInt32))) 1 (vp_nar .byte ((x0 >>> (16 &&& 31)).toInt8.toInt32))) 2 (vp_nar .byte ((x0 >>> (8 &&& 31)).toInt8.toInt32))) 3 (vp_nar .byte ((x0 >>> (0 &&& 31)).toInt8.toInt32)))))] := hD
  refine lv_aload_n hx hb dX5_putFour_30 rfl (lv_at hl 1 rfl) ?_
  refine lv_dup hx hb dX5_putFour_31 rfl ?_
  refine k_get hC hK hP iX5 0 1 wf_X5_15 rfl (by decide) rfl rfl dX5_putFour_32 ?_
  refine lv_iconst (v := 1) hx hb dX5_putFour_35 (by decide) ?_
  refine lv_iadd hx hb dX5_putFour_36 ?_
  refine k_i 4 (by decide +kernel) ?_
  refine k_put hC hK hP hD hS iX5 tyX5_ok nmX5 0 1 wf_X5_15 rfl (by decide) rfl rfl rfl rfl (Nat.le_of_ble_eq_true rfl) dX5_putFour_37 (fun H locs hP hD hS => ?_)
  have hP : va_P G cl [(a0, .inr (5, [.ref a1, .int 4, .int 0, .int 0, .int 0, .long 0, .int 0])), (a1, .inl (cB, 1300, .inl (upd (upd (upd (upd (fun _ => 0) 0 (vp_nar .byte ((x0 >>> (24 &&& 31)).toInt8.toInt32))) 1 (vp_nar .byte ((x0 >>> (16 &&& 31)).toInt8.toInt32))) 2 (vp_nar .byte ((x0 >>> (8 &&& 31)).toInt8.toInt32))) 3 (vp_nar .byte ((x0 >>> (0 &&& 31)).toInt8.toInt32)))))] H := hP
  have hD : va_D A [(a0, .inr (5, [.ref a1, .int 4, .int 0, .int 0, .int 0, .long 0, .int 0])), (a1, .inl (cB, 1300, .inl (upd (upd (upd (upd (fun _ => 0) 0 (vp_nar .byte ((x0 >>> (24 &&& 31)).toInt8.toInt32))) 1 (vp_nar .byte ((x0 >>> (16 &&& 31)).toInt8.toInt32))) 2 (vp_nar .byte ((x0 >>> (8 &&& 31)).toInt8.toInt32))) 3 (vp_nar .byte ((x0 >>> (0 &&& 31)).toInt8.toInt32)))))] := hD
  refine lv_iinc (v := (-8)) (lv' := [(2, .int (-8)), (0, .ref a0), (1, .int x0)]) hx hb dX5_putFour_40 hl (k := 0) rfl (by decide +kernel) (by decide) rfl (fun ls hl => ?_)
  refine lv_goto (tgt := 3) hx hb dX5_putFour_43 (by decide) ?_
  refine lv_iload_n hx hb dX5_putFour_3 rfl (lv_at hl 0 rfl) ?_
  refine lv_if_lt (tgt := 46) hx hb dX5_putFour_4 (by decide) (fun _ => ?_) (fun c_ => absurd (by decide +kernel) c_)
  exact k_vret hC hr hlk hK hP hD hS (upd (upd (upd (upd (fun _ => 0) 0 (vp_nar .byte ((x0 >>> (24 &&& 31)).toInt8.toInt32))) 1 (vp_nar .byte ((x0 >>> (16 &&& 31)).toInt8.toInt32))) 2 (vp_nar .byte ((x0 >>> (8 &&& 31)).toInt8.toInt32))) 3 (vp_nar .byte ((x0 >>> (0 &&& 31)).toInt8.toInt32))) [0, 1] rfl (by decide) trivial (Nat.le_of_ble_eq_true rfl) (Nat.le_of_ble_eq_true rfl) dX5_putFour_46
set_option maxHeartbeats 4000000 in
set_option maxRecDepth 100000 in
theorem c15_X5_putFour (l : Launch) (G : va_G) (cI cJ cB cZ : ClassId) (a0 a1 : Nat) (x0 : Int32) (f_n458 : Nat → Int32) : Con l G (TY cI cJ cB cZ) yX5_putFour cX5_putFour 3 none ({ frames := 0, cells := 0, slots := 0, locals := 0 } : Room) [.ref a0, .int x0] [(a0, .inr (5, [.ref a1, .int 4, .int 0, .int 0, .int 0, .long 0, .int 0])), (a1, .inl (cB, 1300, .inl f_n458))] (QV G (TY cI cJ cB cZ) (fun u : (Nat → Int32) => True) (fun u : (Nat → Int32) => [(a0, .inr (5, [.ref a1, .int 8, .int 0, .int 0, .int 0, .long 0, .int 0])), (a1, .inl (cB, 1300, .inl u))])) := by
  refine k_met (by decide) (Nat.le_of_ble_eq_true rfl) ?_
  intro p e s m below meth c A ls hC hr hlk hnm hN hK hA hP hD hS hl
  have hl : lv_has ls 3 [(0, .ref a0), (1, .int x0)] := hl
  obtain ⟨hx, hb, hml, hown, hts⟩ := id hC
  refine lv_bipush (v := 24) hx hb dX5_putFour_0 (by decide) ?_
  refine lv_istore_n (lv' := [(2, .int 24), (0, .ref a0), (1, .int x0)]) hx hb dX5_putFour_2 rfl hl (by decide) rfl (fun ls hl => ?_)
  refine lv_iload_n hx hb dX5_putFour_3 rfl (lv_at hl 0 rfl) ?_
  refine lv_if_lt (tgt := 46) hx hb dX5_putFour_4 (by decide) (fun c_ => absurd c_ (by decide +kernel)) (fun _ => ?_)
  refine lv_aload_n hx hb dX5_putFour_7 rfl (lv_at hl 1 rfl) ?_
  refine k_get hC hK hP iX5 0 1 wf_X5_15 rfl (by decide) rfl rfl dX5_putFour_8 ?_
  refine lv_sipush (v := 1300) hx hb dX5_putFour_11 (by decide) ?_
  refine lv_icmp_ge (tgt := 40) hx hb dX5_putFour_14 (by decide) (fun c_ => absurd c_ (by decide +kernel)) (fun _ => ?_)
  refine lv_aload_n hx hb dX5_putFour_17 rfl (lv_at hl 1 rfl) ?_
  refine k_get hC hK hP iX5 0 0 wf_X5_9 rfl (by decide) rfl rfl dX5_putFour_18 ?_
  refine lv_aload_n hx hb dX5_putFour_21 rfl (lv_at hl 1 rfl) ?_
  refine k_get hC hK hP iX5 0 1 wf_X5_15 rfl (by decide) rfl rfl dX5_putFour_22 ?_
  refine lv_iload_n hx hb dX5_putFour_25 rfl (lv_at hl 2 rfl) ?_
  refine lv_iload_n hx hb dX5_putFour_26 rfl (lv_at hl 0 rfl) ?_
  refine lv_ishr hx hb dX5_putFour_27 ?_
  refine lv_i2b (v := ((x0 >>> (24 &&& 31)).toInt8.toInt32)) hx hb dX5_putFour_28 rfl ?_
  refine k_bast hC hK hP hD hS 1 4 (vp_nar .byte ((x0 >>> (24 &&& 31)).toInt8.toInt32)) rfl (by decide +kernel) (by decide) rfl dX5_putFour_29 (fun H locs hP hD hS => ?_)
  have hP : va_P G cl [(a0, .inr (5, [.ref a1, .int 4, .int 0, .int 0, .int 0, .long 0, .int 0])), (a1, .inl (cB, 1300, .inl (upd f_n458 4 (vp_nar .byte ((x0 >>> (24 &&& 31)).toInt8.toInt32)))))] H := hP
  have hD : va_D A [(a0, .inr (5, [.ref a1, .int 4, .int 0, .int 0, .int 0, .long 0, .int 0])), (a1, .inl (cB, 1300, .inl (upd f_n458 4 (vp_nar .byte ((x0 >>> (24 &&& 31)).toInt8.toInt32)))))] := hD
  refine lv_aload_n hx hb dX5_putFour_30 rfl (lv_at hl 1 rfl) ?_
  refine lv_dup hx hb dX5_putFour_31 rfl ?_
  refine k_get hC hK hP iX5 0 1 wf_X5_15 rfl (by decide) rfl rfl dX5_putFour_32 ?_
  refine lv_iconst (v := 1) hx hb dX5_putFour_35 (by decide) ?_
  refine lv_iadd hx hb dX5_putFour_36 ?_
  refine k_i 5 (by decide +kernel) ?_
  refine k_put hC hK hP hD hS iX5 tyX5_ok nmX5 0 1 wf_X5_15 rfl (by decide) rfl rfl rfl rfl (Nat.le_of_ble_eq_true rfl) dX5_putFour_37 (fun H locs hP hD hS => ?_)
  have hP : va_P G cl [(a0, .inr (5, [.ref a1, .int 5, .int 0, .int 0, .int 0, .long 0, .int 0])), (a1, .inl (cB, 1300, .inl (upd f_n458 4 (vp_nar .byte ((x0 >>> (24 &&& 31)).toInt8.toInt32)))))] H := hP
  have hD : va_D A [(a0, .inr (5, [.ref a1, .int 5, .int 0, .int 0, .int 0, .long 0, .int 0])), (a1, .inl (cB, 1300, .inl (upd f_n458 4 (vp_nar .byte ((x0 >>> (24 &&& 31)).toInt8.toInt32)))))] := hD
  refine lv_iinc (v := 16) (lv' := [(2, .int 16), (0, .ref a0), (1, .int x0)]) hx hb dX5_putFour_40 hl (k := 0) rfl (by decide +kernel) (by decide) rfl (fun ls hl => ?_)
  refine lv_goto (tgt := 3) hx hb dX5_putFour_43 (by decide) ?_
  refine lv_iload_n hx hb dX5_putFour_3 rfl (lv_at hl 0 rfl) ?_
  refine lv_if_lt (tgt := 46) hx hb dX5_putFour_4 (by decide) (fun c_ => absurd c_ (by decide +kernel)) (fun _ => ?_)
  refine lv_aload_n hx hb dX5_putFour_7 rfl (lv_at hl 1 rfl) ?_
  refine k_get hC hK hP iX5 0 1 wf_X5_15 rfl (by decide) rfl rfl dX5_putFour_8 ?_
  refine lv_sipush (v := 1300) hx hb dX5_putFour_11 (by decide) ?_
  refine lv_icmp_ge (tgt := 40) hx hb dX5_putFour_14 (by decide) (fun c_ => absurd c_ (by decide +kernel)) (fun _ => ?_)
  refine lv_aload_n hx hb dX5_putFour_17 rfl (lv_at hl 1 rfl) ?_
  refine k_get hC hK hP iX5 0 0 wf_X5_9 rfl (by decide) rfl rfl dX5_putFour_18 ?_
  refine lv_aload_n hx hb dX5_putFour_21 rfl (lv_at hl 1 rfl) ?_
  refine k_get hC hK hP iX5 0 1 wf_X5_15 rfl (by decide) rfl rfl dX5_putFour_22 ?_
  refine lv_iload_n hx hb dX5_putFour_25 rfl (lv_at hl 2 rfl) ?_
  refine lv_iload_n hx hb dX5_putFour_26 rfl (lv_at hl 0 rfl) ?_
  refine lv_ishr hx hb dX5_putFour_27 ?_
  refine lv_i2b (v := ((x0 >>> (16 &&& 31)).toInt8.toInt32)) hx hb dX5_putFour_28 rfl ?_
  refine k_bast hC hK hP hD hS 1 5 (vp_nar .byte ((x0 >>> (16 &&& 31)).toInt8.toInt32)) rfl (by decide +kernel) (by decide) rfl dX5_putFour_29 (fun H locs hP hD hS => ?_)
  have hP : va_P G cl [(a0, .inr (5, [.ref a1, .int 5, .int 0, .int 0, .int 0, .long 0, .int 0])), (a1, .inl (cB, 1300, .inl (upd (upd f_n458 4 (vp_nar .byte ((x0 >>> (24 &&& 31)).toInt8.toInt32))) 5 (vp_nar .byte ((x0 >>> (16 &&& 31)).toInt8.toInt32)))))] H := hP
  have hD : va_D A [(a0, .inr (5, [.ref a1, .int 5, .int 0, .int 0, .int 0, .long 0, .int 0])), (a1, .inl (cB, 1300, .inl (upd (upd f_n458 4 (vp_nar .byte ((x0 >>> (24 &&& 31)).toInt8.toInt32))) 5 (vp_nar .byte ((x0 >>> (16 &&& 31)).toInt8.toInt32)))))] := hD
  refine lv_aload_n hx hb dX5_putFour_30 rfl (lv_at hl 1 rfl) ?_
  refine lv_dup hx hb dX5_putFour_31 rfl ?_
  refine k_get hC hK hP iX5 0 1 wf_X5_15 rfl (by decide) rfl rfl dX5_putFour_32 ?_
  refine lv_iconst (v := 1) hx hb dX5_putFour_35 (by decide) ?_
  refine lv_iadd hx hb dX5_putFour_36 ?_
  refine k_i 6 (by decide +kernel) ?_
  refine k_put hC hK hP hD hS iX5 tyX5_ok nmX5 0 1 wf_X5_15 rfl (by decide) rfl rfl rfl rfl (Nat.le_of_ble_eq_true rfl) dX5_putFour_37 (fun H locs hP hD hS => ?_)
  have hP : va_P G cl [(a0, .inr (5, [.ref a1, .int 6, .int 0, .int 0, .int 0, .long 0, .int 0])), (a1, .inl (cB, 1300, .inl (upd (upd f_n458 4 (vp_nar .byte ((x0 >>> (24 &&& 31)).toInt8.toInt32))) 5 (vp_nar .byte ((x0 >>> (16 &&& 31)).toInt8.toInt32)))))] H := hP
  have hD : va_D A [(a0, .inr (5, [.ref a1, .int 6, .int 0, .int 0, .int 0, .long 0, .int 0])), (a1, .inl (cB, 1300, .inl (upd (upd f_n458 4 (vp_nar .byte ((x0 >>> (24 &&& 31)).toInt8.toInt32))) 5 (vp_nar .byte ((x0 >>> (16 &&& 31)).toInt8.toInt32)))))] := hD
  refine lv_iinc (v := 8) (lv' := [(2, .int 8), (0, .ref a0), (1, .int x0)]) hx hb dX5_putFour_40 hl (k := 0) rfl (by decide +kernel) (by decide) rfl (fun ls hl => ?_)
  refine lv_goto (tgt := 3) hx hb dX5_putFour_43 (by decide) ?_
  refine lv_iload_n hx hb dX5_putFour_3 rfl (lv_at hl 0 rfl) ?_
  refine lv_if_lt (tgt := 46) hx hb dX5_putFour_4 (by decide) (fun c_ => absurd c_ (by decide +kernel)) (fun _ => ?_)
  refine lv_aload_n hx hb dX5_putFour_7 rfl (lv_at hl 1 rfl) ?_
  refine k_get hC hK hP iX5 0 1 wf_X5_15 rfl (by decide) rfl rfl dX5_putFour_8 ?_
  refine lv_sipush (v := 1300) hx hb dX5_putFour_11 (by decide) ?_
  refine lv_icmp_ge (tgt := 40) hx hb dX5_putFour_14 (by decide) (fun c_ => absurd c_ (by decide +kernel)) (fun _ => ?_)
  refine lv_aload_n hx hb dX5_putFour_17 rfl (lv_at hl 1 rfl) ?_
  refine k_get hC hK hP iX5 0 0 wf_X5_9 rfl (by decide) rfl rfl dX5_putFour_18 ?_
  refine lv_aload_n hx hb dX5_putFour_21 rfl (lv_at hl 1 rfl) ?_
  refine k_get hC hK hP iX5 0 1 wf_X5_15 rfl (by decide) rfl rfl dX5_putFour_22 ?_
  refine lv_iload_n hx hb dX5_putFour_25 rfl (lv_at hl 2 rfl) ?_
  refine lv_iload_n hx hb dX5_putFour_26 rfl (lv_at hl 0 rfl) ?_
  refine lv_ishr hx hb dX5_putFour_27 ?_
  refine lv_i2b (v := ((x0 >>> (8 &&& 31)).toInt8.toInt32)) hx hb dX5_putFour_28 rfl ?_
  refine k_bast hC hK hP hD hS 1 6 (vp_nar .byte ((x0 >>> (8 &&& 31)).toInt8.toInt32)) rfl (by decide +kernel) (by decide) rfl dX5_putFour_29 (fun H locs hP hD hS => ?_)
  have hP : va_P G cl [(a0, .inr (5, [.ref a1, .int 6, .int 0, .int 0, .int 0, .long 0, .int 0])), (a1, .inl (cB, 1300, .inl (upd (upd (upd f_n458 4 (vp_nar .byte ((x0 >>> (24 &&& 31)).toInt8.toInt32))) 5 (vp_nar .byte ((x0 >>> (16 &&& 31)).toInt8.toInt32))) 6 (vp_nar .byte ((x0 >>> (8 &&& 31)).toInt8.toInt32)))))] H := hP
  have hD : va_D A [(a0, .inr (5, [.ref a1, .int 6, .int 0, .int 0, .int 0, .long 0, .int 0])), (a1, .inl (cB, 1300, .inl (upd (upd (upd f_n458 4 (vp_nar .byte ((x0 >>> (24 &&& 31)).toInt8.toInt32))) 5 (vp_nar .byte ((x0 >>> (16 &&& 31)).toInt8.toInt32))) 6 (vp_nar .byte ((x0 >>> (8 &&& 31)).toInt8.toInt32)))))] := hD
  refine lv_aload_n hx hb dX5_putFour_30 rfl (lv_at hl 1 rfl) ?_
  refine lv_dup hx hb dX5_putFour_31 rfl ?_
  refine k_get hC hK hP iX5 0 1 wf_X5_15 rfl (by decide) rfl rfl dX5_putFour_32 ?_
  refine lv_iconst (v := 1) hx hb dX5_putFour_35 (by decide) ?_
  refine lv_iadd hx hb dX5_putFour_36 ?_
  refine k_i 7 (by decide +kernel) ?_
  refine k_put hC hK hP hD hS iX5 tyX5_ok nmX5 0 1 wf_X5_15 rfl (by decide) rfl rfl rfl rfl (Nat.le_of_ble_eq_true rfl) dX5_putFour_37 (fun H locs hP hD hS => ?_)
  have hP : va_P G cl [(a0, .inr (5, [.ref a1, .int 7, .int 0, .int 0, .int 0, .long 0, .int 0])), (a1, .inl (cB, 1300, .inl (upd (upd (upd f_n458 4 (vp_nar .byte ((x0 >>> (24 &&& 31)).toInt8.toInt32))) 5 (vp_nar .byte ((x0 >>> (16 &&& 31)).toInt8.toInt32))) 6 (vp_nar .byte ((x0 >>> (8 &&& 31)).toInt8.toInt32)))))] H := hP
  have hD : va_D A [(a0, .inr (5, [.ref a1, .int 7, .int 0, .int 0, .int 0, .long 0, .int 0])), (a1, .inl (cB, 1300, .inl (upd (upd (upd f_n458 4 (vp_nar .byte ((x0 >>> (24 &&& 31)).toInt8.toInt32))) 5 (vp_nar .byte ((x0 >>> (16 &&& 31)).toInt8.toInt32))) 6 (vp_nar .byte ((x0 >>> (8 &&& 31)).toInt8.toInt32)))))] := hD
  refine lv_iinc (v := 0) (lv' := [(2, .int 0), (0, .ref a0), (1, .int x0)]) hx hb dX5_putFour_40 hl (k := 0) rfl (by decide +kernel) (by decide) rfl (fun ls hl => ?_)
  refine lv_goto (tgt := 3) hx hb dX5_putFour_43 (by decide) ?_
  refine lv_iload_n hx hb dX5_putFour_3 rfl (lv_at hl 0 rfl) ?_
  refine lv_if_lt (tgt := 46) hx hb dX5_putFour_4 (by decide) (fun c_ => absurd c_ (by decide +kernel)) (fun _ => ?_)
  refine lv_aload_n hx hb dX5_putFour_7 rfl (lv_at hl 1 rfl) ?_
  refine k_get hC hK hP iX5 0 1 wf_X5_15 rfl (by decide) rfl rfl dX5_putFour_8 ?_
  refine lv_sipush (v := 1300) hx hb dX5_putFour_11 (by decide) ?_
  refine lv_icmp_ge (tgt := 40) hx hb dX5_putFour_14 (by decide) (fun c_ => absurd c_ (by decide +kernel)) (fun _ => ?_)
  refine lv_aload_n hx hb dX5_putFour_17 rfl (lv_at hl 1 rfl) ?_
  refine k_get hC hK hP iX5 0 0 wf_X5_9 rfl (by decide) rfl rfl dX5_putFour_18 ?_
  refine lv_aload_n hx hb dX5_putFour_21 rfl (lv_at hl 1 rfl) ?_
  refine k_get hC hK hP iX5 0 1 wf_X5_15 rfl (by decide) rfl rfl dX5_putFour_22 ?_
  refine lv_iload_n hx hb dX5_putFour_25 rfl (lv_at hl 2 rfl) ?_
  refine lv_iload_n hx hb dX5_putFour_26 rfl (lv_at hl 0 rfl) ?_
  refine lv_ishr hx hb dX5_putFour_27 ?_
  refine lv_i2b (v := ((x0 >>> (0 &&& 31)).toInt8.toInt32)) hx hb dX5_putFour_28 rfl ?_
  refine k_bast hC hK hP hD hS 1 7 (vp_nar .byte ((x0 >>> (0 &&& 31)).toInt8.toInt32)) rfl (by decide +kernel) (by decide) rfl dX5_putFour_29 (fun H locs hP hD hS => ?_)
  have hP : va_P G cl [(a0, .inr (5, [.ref a1, .int 7, .int 0, .int 0, .int 0, .long 0, .int 0])), (a1, .inl (cB, 1300, .inl (upd (upd (upd (upd f_n458 4 (vp_nar .byte ((x0 >>> (24 &&& 31)).toInt8.toInt32))) 5 (vp_nar .byte ((x0 >>> (16 &&& 31)).toInt8.toInt32))) 6 (vp_nar .byte ((x0 >>> (8 &&& 31)).toInt8.toInt32))) 7 (vp_nar .byte ((x0 >>> (0 &&& 31)).toInt8.toInt32)))))] H := hP
  have hD : va_D A [(a0, .inr (5, [.ref a1, .int 7, .int 0, .int 0, .int 0, .long 0, .int 0])), (a1, .inl (cB, 1300, .inl (upd (upd (upd (upd f_n458 4 (vp_nar .byte ((x0 >>> (24 &&& 31)).toInt8.toInt32))) 5 (vp_nar .byte ((x0 >>> (16 &&& 31)).toInt8.toInt32))) 6 (vp_nar .byte ((x0 >>> (8 &&& 31)).toInt8.toInt32))) 7 (vp_nar .byte ((x0 >>> (0 &&& 31)).toInt8.toInt32)))))] := hD
  refine lv_aload_n hx hb dX5_putFour_30 rfl (lv_at hl 1 rfl) ?_
  refine lv_dup hx hb dX5_putFour_31 rfl ?_
  refine k_get hC hK hP iX5 0 1 wf_X5_15 rfl (by decide) rfl rfl dX5_putFour_32 ?_
  refine lv_iconst (v := 1) hx hb dX5_putFour_35 (by decide) ?_
  refine lv_iadd hx hb dX5_putFour_36 ?_
  refine k_i 8 (by decide +kernel) ?_
  refine k_put hC hK hP hD hS iX5 tyX5_ok nmX5 0 1 wf_X5_15 rfl (by decide) rfl rfl rfl rfl (Nat.le_of_ble_eq_true rfl) dX5_putFour_37 (fun H locs hP hD hS => ?_)
  have hP : va_P G cl [(a0, .inr (5, [.ref a1, .int 8, .int 0, .int 0, .int 0, .long 0, .int 0])), (a1, .inl (cB, 1300, .inl (upd (upd (upd (upd f_n458 4 (vp_nar .byte ((x0 >>> (24 &&& 31)).toInt8.toInt32))) 5 (vp_nar .byte ((x0 >>> (16 &&& 31)).toInt8.toInt32))) 6 (vp_nar .byte ((x0 >>> (8 &&& 31)).toInt8.toInt32))) 7 (vp_nar .byte ((x0 >>> (0 &&& 31)).toInt8.toInt32)))))] H := hP
  have hD : va_D A [(a0, .inr (5, [.ref a1, .int 8, .int 0, .int 0, .int 0, .long 0, .int 0])), (a1, .inl (cB, 1300, .inl (upd (upd (upd (upd f_n458 4 (vp_nar .byte ((x0 >>> (24 &&& 31)).toInt8.toInt32))) 5 (vp_nar .byte ((x0 >>> (16 &&& 31)).toInt8.toInt32))) 6 (vp_nar .byte ((x0 >>> (8 &&& 31)).toInt8.toInt32))) 7 (vp_nar .byte ((x0 >>> (0 &&& 31)).toInt8.toInt32)))))] := hD
  refine lv_iinc (v := (-8)) (lv' := [(2, .int (-8)), (0, .ref a0), (1, .int x0)]) hx hb dX5_putFour_40 hl (k := 0) rfl (by decide +kernel) (by decide) rfl (fun ls hl => ?_)
  refine lv_goto (tgt := 3) hx hb dX5_putFour_43 (by decide) ?_
  refine lv_iload_n hx hb dX5_putFour_3 rfl (lv_at hl 0 rfl) ?_
  refine lv_if_lt (tgt := 46) hx hb dX5_putFour_4 (by decide) (fun _ => ?_) (fun c_ => absurd (by decide +kernel) c_)
  exact k_vret hC hr hlk hK hP hD hS (upd (upd (upd (upd f_n458 4 (vp_nar .byte ((x0 >>> (24 &&& 31)).toInt8.toInt32))) 5 (vp_nar .byte ((x0 >>> (16 &&& 31)).toInt8.toInt32))) 6 (vp_nar .byte ((x0 >>> (8 &&& 31)).toInt8.toInt32))) 7 (vp_nar .byte ((x0 >>> (0 &&& 31)).toInt8.toInt32))) [0, 1] rfl (by decide) trivial (Nat.le_of_ble_eq_true rfl) (Nat.le_of_ble_eq_true rfl) dX5_putFour_46
set_option maxHeartbeats 4000000 in
set_option maxRecDepth 100000 in
theorem c16_X5_putFour (l : Launch) (G : va_G) (cI cJ cB cZ : ClassId) (a0 a1 : Nat) (x0 : Int32) (f_n458 : Nat → Int32) : Con l G (TY cI cJ cB cZ) yX5_putFour cX5_putFour 3 none ({ frames := 0, cells := 0, slots := 0, locals := 0 } : Room) [.ref a0, .int x0] [(a0, .inr (5, [.ref a1, .int 8, .int 0, .int 0, .int 0, .long 0, .int 0])), (a1, .inl (cB, 1300, .inl f_n458))] (QV G (TY cI cJ cB cZ) (fun u : (Nat → Int32) => True) (fun u : (Nat → Int32) => [(a0, .inr (5, [.ref a1, .int 12, .int 0, .int 0, .int 0, .long 0, .int 0])), (a1, .inl (cB, 1300, .inl u))])) := by
  refine k_met (by decide) (Nat.le_of_ble_eq_true rfl) ?_
  intro p e s m below meth c A ls hC hr hlk hnm hN hK hA hP hD hS hl
  have hl : lv_has ls 3 [(0, .ref a0), (1, .int x0)] := hl
  obtain ⟨hx, hb, hml, hown, hts⟩ := id hC
  refine lv_bipush (v := 24) hx hb dX5_putFour_0 (by decide) ?_
  refine lv_istore_n (lv' := [(2, .int 24), (0, .ref a0), (1, .int x0)]) hx hb dX5_putFour_2 rfl hl (by decide) rfl (fun ls hl => ?_)
  refine lv_iload_n hx hb dX5_putFour_3 rfl (lv_at hl 0 rfl) ?_
  refine lv_if_lt (tgt := 46) hx hb dX5_putFour_4 (by decide) (fun c_ => absurd c_ (by decide +kernel)) (fun _ => ?_)
  refine lv_aload_n hx hb dX5_putFour_7 rfl (lv_at hl 1 rfl) ?_
  refine k_get hC hK hP iX5 0 1 wf_X5_15 rfl (by decide) rfl rfl dX5_putFour_8 ?_
  refine lv_sipush (v := 1300) hx hb dX5_putFour_11 (by decide) ?_
  refine lv_icmp_ge (tgt := 40) hx hb dX5_putFour_14 (by decide) (fun c_ => absurd c_ (by decide +kernel)) (fun _ => ?_)
  refine lv_aload_n hx hb dX5_putFour_17 rfl (lv_at hl 1 rfl) ?_
  refine k_get hC hK hP iX5 0 0 wf_X5_9 rfl (by decide) rfl rfl dX5_putFour_18 ?_
  refine lv_aload_n hx hb dX5_putFour_21 rfl (lv_at hl 1 rfl) ?_
  refine k_get hC hK hP iX5 0 1 wf_X5_15 rfl (by decide) rfl rfl dX5_putFour_22 ?_
  refine lv_iload_n hx hb dX5_putFour_25 rfl (lv_at hl 2 rfl) ?_
  refine lv_iload_n hx hb dX5_putFour_26 rfl (lv_at hl 0 rfl) ?_
  refine lv_ishr hx hb dX5_putFour_27 ?_
  refine lv_i2b (v := ((x0 >>> (24 &&& 31)).toInt8.toInt32)) hx hb dX5_putFour_28 rfl ?_
  refine k_bast hC hK hP hD hS 1 8 (vp_nar .byte ((x0 >>> (24 &&& 31)).toInt8.toInt32)) rfl (by decide +kernel) (by decide) rfl dX5_putFour_29 (fun H locs hP hD hS => ?_)
  have hP : va_P G cl [(a0, .inr (5, [.ref a1, .int 8, .int 0, .int 0, .int 0, .long 0, .int 0])), (a1, .inl (cB, 1300, .inl (upd f_n458 8 (vp_nar .byte ((x0 >>> (24 &&& 31)).toInt8.toInt32)))))] H := hP
  have hD : va_D A [(a0, .inr (5, [.ref a1, .int 8, .int 0, .int 0, .int 0, .long 0, .int 0])), (a1, .inl (cB, 1300, .inl (upd f_n458 8 (vp_nar .byte ((x0 >>> (24 &&& 31)).toInt8.toInt32)))))] := hD
  refine lv_aload_n hx hb dX5_putFour_30 rfl (lv_at hl 1 rfl) ?_
  refine lv_dup hx hb dX5_putFour_31 rfl ?_
  refine k_get hC hK hP iX5 0 1 wf_X5_15 rfl (by decide) rfl rfl dX5_putFour_32 ?_
  refine lv_iconst (v := 1) hx hb dX5_putFour_35 (by decide) ?_
  refine lv_iadd hx hb dX5_putFour_36 ?_
  refine k_i 9 (by decide +kernel) ?_
  refine k_put hC hK hP hD hS iX5 tyX5_ok nmX5 0 1 wf_X5_15 rfl (by decide) rfl rfl rfl rfl (Nat.le_of_ble_eq_true rfl) dX5_putFour_37 (fun H locs hP hD hS => ?_)
  have hP : va_P G cl [(a0, .inr (5, [.ref a1, .int 9, .int 0, .int 0, .int 0, .long 0, .int 0])), (a1, .inl (cB, 1300, .inl (upd f_n458 8 (vp_nar .byte ((x0 >>> (24 &&& 31)).toInt8.toInt32)))))] H := hP
  have hD : va_D A [(a0, .inr (5, [.ref a1, .int 9, .int 0, .int 0, .int 0, .long 0, .int 0])), (a1, .inl (cB, 1300, .inl (upd f_n458 8 (vp_nar .byte ((x0 >>> (24 &&& 31)).toInt8.toInt32)))))] := hD
  refine lv_iinc (v := 16) (lv' := [(2, .int 16), (0, .ref a0), (1, .int x0)]) hx hb dX5_putFour_40 hl (k := 0) rfl (by decide +kernel) (by decide) rfl (fun ls hl => ?_)
  refine lv_goto (tgt := 3) hx hb dX5_putFour_43 (by decide) ?_
  refine lv_iload_n hx hb dX5_putFour_3 rfl (lv_at hl 0 rfl) ?_
  refine lv_if_lt (tgt := 46) hx hb dX5_putFour_4 (by decide) (fun c_ => absurd c_ (by decide +kernel)) (fun _ => ?_)
  refine lv_aload_n hx hb dX5_putFour_7 rfl (lv_at hl 1 rfl) ?_
  refine k_get hC hK hP iX5 0 1 wf_X5_15 rfl (by decide) rfl rfl dX5_putFour_8 ?_
  refine lv_sipush (v := 1300) hx hb dX5_putFour_11 (by decide) ?_
  refine lv_icmp_ge (tgt := 40) hx hb dX5_putFour_14 (by decide) (fun c_ => absurd c_ (by decide +kernel)) (fun _ => ?_)
  refine lv_aload_n hx hb dX5_putFour_17 rfl (lv_at hl 1 rfl) ?_
  refine k_get hC hK hP iX5 0 0 wf_X5_9 rfl (by decide) rfl rfl dX5_putFour_18 ?_
  refine lv_aload_n hx hb dX5_putFour_21 rfl (lv_at hl 1 rfl) ?_
  refine k_get hC hK hP iX5 0 1 wf_X5_15 rfl (by decide) rfl rfl dX5_putFour_22 ?_
  refine lv_iload_n hx hb dX5_putFour_25 rfl (lv_at hl 2 rfl) ?_
  refine lv_iload_n hx hb dX5_putFour_26 rfl (lv_at hl 0 rfl) ?_
  refine lv_ishr hx hb dX5_putFour_27 ?_
  refine lv_i2b (v := ((x0 >>> (16 &&& 31)).toInt8.toInt32)) hx hb dX5_putFour_28 rfl ?_
  refine k_bast hC hK hP hD hS 1 9 (vp_nar .byte ((x0 >>> (16 &&& 31)).toInt8.toInt32)) rfl (by decide +kernel) (by decide) rfl dX5_putFour_29 (fun H locs hP hD hS => ?_)
  have hP : va_P G cl [(a0, .inr (5, [.ref a1, .int 9, .int 0, .int 0, .int 0, .long 0, .int 0])), (a1, .inl (cB, 1300, .inl (upd (upd f_n458 8 (vp_nar .byte ((x0 >>> (24 &&& 31)).toInt8.toInt32))) 9 (vp_nar .byte ((x0 >>> (16 &&& 31)).toInt8.toInt32)))))] H := hP
  have hD : va_D A [(a0, .inr (5, [.ref a1, .int 9, .int 0, .int 0, .int 0, .long 0, .int 0])), (a1, .inl (cB, 1300, .inl (upd (upd f_n458 8 (vp_nar .byte ((x0 >>> (24 &&& 31)).toInt8.toInt32))) 9 (vp_nar .byte ((x0 >>> (16 &&& 31)).toInt8.toInt32)))))] := hD
  refine lv_aload_n hx hb dX5_putFour_30 rfl (lv_at hl 1 rfl) ?_
  refine lv_dup hx hb dX5_putFour_31 rfl ?_
  refine k_get hC hK hP iX5 0 1 wf_X5_15 rfl (by decide) rfl rfl dX5_putFour_32 ?_
  refine lv_iconst (v := 1) hx hb dX5_putFour_35 (by decide) ?_
  refine lv_iadd hx hb dX5_putFour_36 ?_
  refine k_i 10 (by decide +kernel) ?_
  refine k_put hC hK hP hD hS iX5 tyX5_ok nmX5 0 1 wf_X5_15 rfl (by decide) rfl rfl rfl rfl (Nat.le_of_ble_eq_true rfl) dX5_putFour_37 (fun H locs hP hD hS => ?_)
  have hP : va_P G cl [(a0, .inr (5, [.ref a1, .int 10, .int 0, .int 0, .int 0, .long 0, .int 0])), (a1, .inl (cB, 1300, .inl (upd (upd f_n458 8 (vp_nar .byte ((x0 >>> (24 &&& 31)).toInt8.toInt32))) 9 (vp_nar .byte ((x0 >>> (16 &&& 31)).toInt8.toInt32)))))] H := hP
  have hD : va_D A [(a0, .inr (5, [.ref a1, .int 10, .int 0, .int 0, .int 0, .long 0, .int 0])), (a1, .inl (cB, 1300, .inl (upd (upd f_n458 8 (vp_nar .byte ((x0 >>> (24 &&& 31)).toInt8.toInt32))) 9 (vp_nar .byte ((x0 >>> (16 &&& 31)).toInt8.toInt32)))))] := hD
  refine lv_iinc (v := 8) (lv' := [(2, .int 8), (0, .ref a0), (1, .int x0)]) hx hb dX5_putFour_40 hl (k := 0) rfl (by decide +kernel) (by decide) rfl (fun ls hl => ?_)
  refine lv_goto (tgt := 3) hx hb dX5_putFour_43 (by decide) ?_
  refine lv_iload_n hx hb dX5_putFour_3 rfl (lv_at hl 0 rfl) ?_
  refine lv_if_lt (tgt := 46) hx hb dX5_putFour_4 (by decide) (fun c_ => absurd c_ (by decide +kernel)) (fun _ => ?_)
  refine lv_aload_n hx hb dX5_putFour_7 rfl (lv_at hl 1 rfl) ?_
  refine k_get hC hK hP iX5 0 1 wf_X5_15 rfl (by decide) rfl rfl dX5_putFour_8 ?_
  refine lv_sipush (v := 1300) hx hb dX5_putFour_11 (by decide) ?_
  refine lv_icmp_ge (tgt := 40) hx hb dX5_putFour_14 (by decide) (fun c_ => absurd c_ (by decide +kernel)) (fun _ => ?_)
  refine lv_aload_n hx hb dX5_putFour_17 rfl (lv_at hl 1 rfl) ?_
  refine k_get hC hK hP iX5 0 0 wf_X5_9 rfl (by decide) rfl rfl dX5_putFour_18 ?_
  refine lv_aload_n hx hb dX5_putFour_21 rfl (lv_at hl 1 rfl) ?_
  refine k_get hC hK hP iX5 0 1 wf_X5_15 rfl (by decide) rfl rfl dX5_putFour_22 ?_
  refine lv_iload_n hx hb dX5_putFour_25 rfl (lv_at hl 2 rfl) ?_
  refine lv_iload_n hx hb dX5_putFour_26 rfl (lv_at hl 0 rfl) ?_
  refine lv_ishr hx hb dX5_putFour_27 ?_
  refine lv_i2b (v := ((x0 >>> (8 &&& 31)).toInt8.toInt32)) hx hb dX5_putFour_28 rfl ?_
  refine k_bast hC hK hP hD hS 1 10 (vp_nar .byte ((x0 >>> (8 &&& 31)).toInt8.toInt32)) rfl (by decide +kernel) (by decide) rfl dX5_putFour_29 (fun H locs hP hD hS => ?_)
  have hP : va_P G cl [(a0, .inr (5, [.ref a1, .int 10, .int 0, .int 0, .int 0, .long 0, .int 0])), (a1, .inl (cB, 1300, .inl (upd (upd (upd f_n458 8 (vp_nar .byte ((x0 >>> (24 &&& 31)).toInt8.toInt32))) 9 (vp_nar .byte ((x0 >>> (16 &&& 31)).toInt8.toInt32))) 10 (vp_nar .byte ((x0 >>> (8 &&& 31)).toInt8.toInt32)))))] H := hP
  have hD : va_D A [(a0, .inr (5, [.ref a1, .int 10, .int 0, .int 0, .int 0, .long 0, .int 0])), (a1, .inl (cB, 1300, .inl (upd (upd (upd f_n458 8 (vp_nar .byte ((x0 >>> (24 &&& 31)).toInt8.toInt32))) 9 (vp_nar .byte ((x0 >>> (16 &&& 31)).toInt8.toInt32))) 10 (vp_nar .byte ((x0 >>> (8 &&& 31)).toInt8.toInt32)))))] := hD
  refine lv_aload_n hx hb dX5_putFour_30 rfl (lv_at hl 1 rfl) ?_
  refine lv_dup hx hb dX5_putFour_31 rfl ?_
  refine k_get hC hK hP iX5 0 1 wf_X5_15 rfl (by decide) rfl rfl dX5_putFour_32 ?_
  refine lv_iconst (v := 1) hx hb dX5_putFour_35 (by decide) ?_
  refine lv_iadd hx hb dX5_putFour_36 ?_
  refine k_i 11 (by decide +kernel) ?_
  refine k_put hC hK hP hD hS iX5 tyX5_ok nmX5 0 1 wf_X5_15 rfl (by decide) rfl rfl rfl rfl (Nat.le_of_ble_eq_true rfl) dX5_putFour_37 (fun H locs hP hD hS => ?_)
  have hP : va_P G cl [(a0, .inr (5, [.ref a1, .int 11, .int 0, .int 0, .int 0, .long 0, .int 0])), (a1, .inl (cB, 1300, .inl (upd (upd (upd f_n458 8 (vp_nar .byte ((x0 >>> (24 &&& 31)).toInt8.toInt32))) 9 (vp_nar .byte ((x0 >>> (16 &&& 31)).toInt8.toInt32))) 10 (vp_nar .byte ((x0 >>> (8 &&& 31)).toInt8.toInt32)))))] H := hP
  have hD : va_D A [(a0, .inr (5, [.ref a1, .int 11, .int 0, .int 0, .int 0, .long 0, .int 0])), (a1, .inl (cB, 1300, .inl (upd (upd (upd f_n458 8 (vp_nar .byte ((x0 >>> (24 &&& 31)).toInt8.toInt32))) 9 (vp_nar .byte ((x0 >>> (16 &&& 31)).toInt8.toInt32))) 10 (vp_nar .byte ((x0 >>> (8 &&& 31)).toInt8.toInt32)))))] := hD
  refine lv_iinc (v := 0) (lv' := [(2, .int 0), (0, .ref a0), (1, .int x0)]) hx hb dX5_putFour_40 hl (k := 0) rfl (by decide +kernel) (by decide) rfl (fun ls hl => ?_)
  refine lv_goto (tgt := 3) hx hb dX5_putFour_43 (by decide) ?_
  refine lv_iload_n hx hb dX5_putFour_3 rfl (lv_at hl 0 rfl) ?_
  refine lv_if_lt (tgt := 46) hx hb dX5_putFour_4 (by decide) (fun c_ => absurd c_ (by decide +kernel)) (fun _ => ?_)
  refine lv_aload_n hx hb dX5_putFour_7 rfl (lv_at hl 1 rfl) ?_
  refine k_get hC hK hP iX5 0 1 wf_X5_15 rfl (by decide) rfl rfl dX5_putFour_8 ?_
  refine lv_sipush (v := 1300) hx hb dX5_putFour_11 (by decide) ?_
  refine lv_icmp_ge (tgt := 40) hx hb dX5_putFour_14 (by decide) (fun c_ => absurd c_ (by decide +kernel)) (fun _ => ?_)
  refine lv_aload_n hx hb dX5_putFour_17 rfl (lv_at hl 1 rfl) ?_
  refine k_get hC hK hP iX5 0 0 wf_X5_9 rfl (by decide) rfl rfl dX5_putFour_18 ?_
  refine lv_aload_n hx hb dX5_putFour_21 rfl (lv_at hl 1 rfl) ?_
  refine k_get hC hK hP iX5 0 1 wf_X5_15 rfl (by decide) rfl rfl dX5_putFour_22 ?_
  refine lv_iload_n hx hb dX5_putFour_25 rfl (lv_at hl 2 rfl) ?_
  refine lv_iload_n hx hb dX5_putFour_26 rfl (lv_at hl 0 rfl) ?_
  refine lv_ishr hx hb dX5_putFour_27 ?_
  refine lv_i2b (v := ((x0 >>> (0 &&& 31)).toInt8.toInt32)) hx hb dX5_putFour_28 rfl ?_
  refine k_bast hC hK hP hD hS 1 11 (vp_nar .byte ((x0 >>> (0 &&& 31)).toInt8.toInt32)) rfl (by decide +kernel) (by decide) rfl dX5_putFour_29 (fun H locs hP hD hS => ?_)
  have hP : va_P G cl [(a0, .inr (5, [.ref a1, .int 11, .int 0, .int 0, .int 0, .long 0, .int 0])), (a1, .inl (cB, 1300, .inl (upd (upd (upd (upd f_n458 8 (vp_nar .byte ((x0 >>> (24 &&& 31)).toInt8.toInt32))) 9 (vp_nar .byte ((x0 >>> (16 &&& 31)).toInt8.toInt32))) 10 (vp_nar .byte ((x0 >>> (8 &&& 31)).toInt8.toInt32))) 11 (vp_nar .byte ((x0 >>> (0 &&& 31)).toInt8.toInt32)))))] H := hP
  have hD : va_D A [(a0, .inr (5, [.ref a1, .int 11, .int 0, .int 0, .int 0, .long 0, .int 0])), (a1, .inl (cB, 1300, .inl (upd (upd (upd (upd f_n458 8 (vp_nar .byte ((x0 >>> (24 &&& 31)).toInt8.toInt32))) 9 (vp_nar .byte ((x0 >>> (16 &&& 31)).toInt8.toInt32))) 10 (vp_nar .byte ((x0 >>> (8 &&& 31)).toInt8.toInt32))) 11 (vp_nar .byte ((x0 >>> (0 &&& 31)).toInt8.toInt32)))))] := hD
  refine lv_aload_n hx hb dX5_putFour_30 rfl (lv_at hl 1 rfl) ?_
  refine lv_dup hx hb dX5_putFour_31 rfl ?_
  refine k_get hC hK hP iX5 0 1 wf_X5_15 rfl (by decide) rfl rfl dX5_putFour_32 ?_
  refine lv_iconst (v := 1) hx hb dX5_putFour_35 (by decide) ?_
  refine lv_iadd hx hb dX5_putFour_36 ?_
  refine k_i 12 (by decide +kernel) ?_
  refine k_put hC hK hP hD hS iX5 tyX5_ok nmX5 0 1 wf_X5_15 rfl (by decide) rfl rfl rfl rfl (Nat.le_of_ble_eq_true rfl) dX5_putFour_37 (fun H locs hP hD hS => ?_)
  have hP : va_P G cl [(a0, .inr (5, [.ref a1, .int 12, .int 0, .int 0, .int 0, .long 0, .int 0])), (a1, .inl (cB, 1300, .inl (upd (upd (upd (upd f_n458 8 (vp_nar .byte ((x0 >>> (24 &&& 31)).toInt8.toInt32))) 9 (vp_nar .byte ((x0 >>> (16 &&& 31)).toInt8.toInt32))) 10 (vp_nar .byte ((x0 >>> (8 &&& 31)).toInt8.toInt32))) 11 (vp_nar .byte ((x0 >>> (0 &&& 31)).toInt8.toInt32)))))] H := hP
  have hD : va_D A [(a0, .inr (5, [.ref a1, .int 12, .int 0, .int 0, .int 0, .long 0, .int 0])), (a1, .inl (cB, 1300, .inl (upd (upd (upd (upd f_n458 8 (vp_nar .byte ((x0 >>> (24 &&& 31)).toInt8.toInt32))) 9 (vp_nar .byte ((x0 >>> (16 &&& 31)).toInt8.toInt32))) 10 (vp_nar .byte ((x0 >>> (8 &&& 31)).toInt8.toInt32))) 11 (vp_nar .byte ((x0 >>> (0 &&& 31)).toInt8.toInt32)))))] := hD
  refine lv_iinc (v := (-8)) (lv' := [(2, .int (-8)), (0, .ref a0), (1, .int x0)]) hx hb dX5_putFour_40 hl (k := 0) rfl (by decide +kernel) (by decide) rfl (fun ls hl => ?_)
  refine lv_goto (tgt := 3) hx hb dX5_putFour_43 (by decide) ?_
  refine lv_iload_n hx hb dX5_putFour_3 rfl (lv_at hl 0 rfl) ?_
  refine lv_if_lt (tgt := 46) hx hb dX5_putFour_4 (by decide) (fun _ => ?_) (fun c_ => absurd (by decide +kernel) c_)
  exact k_vret hC hr hlk hK hP hD hS (upd (upd (upd (upd f_n458 8 (vp_nar .byte ((x0 >>> (24 &&& 31)).toInt8.toInt32))) 9 (vp_nar .byte ((x0 >>> (16 &&& 31)).toInt8.toInt32))) 10 (vp_nar .byte ((x0 >>> (8 &&& 31)).toInt8.toInt32))) 11 (vp_nar .byte ((x0 >>> (0 &&& 31)).toInt8.toInt32))) [0, 1] rfl (by decide) trivial (Nat.le_of_ble_eq_true rfl) (Nat.le_of_ble_eq_true rfl) dX5_putFour_46
set_option maxHeartbeats 4000000 in
set_option maxRecDepth 100000 in
theorem c17_X5_putFour (l : Launch) (G : va_G) (cI cJ cB cZ : ClassId) (a0 a1 : Nat) (x0 : Int32) (f_n458 : Nat → Int32) : Con l G (TY cI cJ cB cZ) yX5_putFour cX5_putFour 3 none ({ frames := 0, cells := 0, slots := 0, locals := 0 } : Room) [.ref a0, .int x0] [(a0, .inr (5, [.ref a1, .int 12, .int 0, .int 0, .int 0, .long 0, .int 0])), (a1, .inl (cB, 1300, .inl f_n458))] (QV G (TY cI cJ cB cZ) (fun u : (Nat → Int32) => True) (fun u : (Nat → Int32) => [(a0, .inr (5, [.ref a1, .int 16, .int 0, .int 0, .int 0, .long 0, .int 0])), (a1, .inl (cB, 1300, .inl u))])) := by
  refine k_met (by decide) (Nat.le_of_ble_eq_true rfl) ?_
  intro p e s m below meth c A ls hC hr hlk hnm hN hK hA hP hD hS hl
  have hl : lv_has ls 3 [(0, .ref a0), (1, .int x0)] := hl
  obtain ⟨hx, hb, hml, hown, hts⟩ := id hC
  refine lv_bipush (v := 24) hx hb dX5_putFour_0 (by decide) ?_
  refine lv_istore_n (lv' := [(2, .int 24), (0, .ref a0), (1, .int x0)]) hx hb dX5_putFour_2 rfl hl (by decide) rfl (fun ls hl => ?_)
  refine lv_iload_n hx hb dX5_putFour_3 rfl (lv_at hl 0 rfl) ?_
  refine lv_if_lt (tgt := 46) hx hb dX5_putFour_4 (by decide) (fun c_ => absurd c_ (by decide +kernel)) (fun _ => ?_)
  refine lv_aload_n hx hb dX5_putFour_7 rfl (lv_at hl 1 rfl) ?_
  refine k_get hC hK hP iX5 0 1 wf_X5_15 rfl (by decide) rfl rfl dX5_putFour_8 ?_
  refine lv_sipush (v := 1300) hx hb dX5_putFour_11 (by decide) ?_
  refine lv_icmp_ge (tgt := 40) hx hb dX5_putFour_14 (by decide) (fun c_ => absurd c_ (by decide +kernel)) (fun _ => ?_)
  refine lv_aload_n hx hb dX5_putFour_17 rfl (lv_at hl 1 rfl) ?_
  refine k_get hC hK hP iX5 0 0 wf_X5_9 rfl (by decide) rfl rfl dX5_putFour_18 ?_
  refine lv_aload_n hx hb dX5_putFour_21 rfl (lv_at hl 1 rfl) ?_
  refine k_get hC hK hP iX5 0 1 wf_X5_15 rfl (by decide) rfl rfl dX5_putFour_22 ?_
  refine lv_iload_n hx hb dX5_putFour_25 rfl (lv_at hl 2 rfl) ?_
  refine lv_iload_n hx hb dX5_putFour_26 rfl (lv_at hl 0 rfl) ?_
  refine lv_ishr hx hb dX5_putFour_27 ?_
  refine lv_i2b (v := ((x0 >>> (24 &&& 31)).toInt8.toInt32)) hx hb dX5_putFour_28 rfl ?_
  refine k_bast hC hK hP hD hS 1 12 (vp_nar .byte ((x0 >>> (24 &&& 31)).toInt8.toInt32)) rfl (by decide +kernel) (by decide) rfl dX5_putFour_29 (fun H locs hP hD hS => ?_)
  have hP : va_P G cl [(a0, .inr (5, [.ref a1, .int 12, .int 0, .int 0, .int 0, .long 0, .int 0])), (a1, .inl (cB, 1300, .inl (upd f_n458 12 (vp_nar .byte ((x0 >>> (24 &&& 31)).toInt8.toInt32)))))] H := hP
  have hD : va_D A [(a0, .inr (5, [.ref a1, .int 12, .int 0, .int 0, .int 0, .long 0, .int 0])), (a1, .inl (cB, 1300, .inl (upd f_n458 12 (vp_nar .byte ((x0 >>> (24 &&& 31)).toInt8.toInt32)))))] := hD
  refine lv_aload_n hx hb dX5_putFour_30 rfl (lv_at hl 1 rfl) ?_
  refine lv_dup hx hb dX5_putFour_31 rfl ?_
  refine k_get hC hK hP iX5 0 1 wf_X5_15 rfl (by decide) rfl rfl dX5_putFour_32 ?_
  refine lv_iconst (v := 1) hx hb dX5_putFour_35 (by decide) ?_
  refine lv_iadd hx hb dX5_putFour_36 ?_
  refine k_i 13 (by decide +kernel) ?_
  refine k_put hC hK hP hD hS iX5 tyX5_ok nmX5 0 1 wf_X5_15 rfl (by decide) rfl rfl rfl rfl (Nat.le_of_ble_eq_true rfl) dX5_putFour_37 (fun H locs hP hD hS => ?_)
  have hP : va_P G cl [(a0, .inr (5, [.ref a1, .int 13, .int 0, .int 0, .int 0, .long 0, .int 0])), (a1, .inl (cB, 1300, .inl (upd f_n458 12 (vp_nar .byte ((x0 >>> (24 &&& 31)).toInt8.toInt32)))))] H := hP
  have hD : va_D A [(a0, .inr (5, [.ref a1, .int 13, .int 0, .int 0, .int 0, .long 0, .int 0])), (a1, .inl (cB, 1300, .inl (upd f_n458 12 (vp_nar .byte ((x0 >>> (24 &&& 31)).toInt8.toInt32)))))] := hD
  refine lv_iinc (v := 16) (lv' := [(2, .int 16), (0, .ref a0), (1, .int x0)]) hx hb dX5_putFour_40 hl (k := 0) rfl (by decide +kernel) (by decide) rfl (fun ls hl => ?_)
  refine lv_goto (tgt := 3) hx hb dX5_putFour_43 (by decide) ?_
  refine lv_iload_n hx hb dX5_putFour_3 rfl (lv_at hl 0 rfl) ?_
  refine lv_if_lt (tgt := 46) hx hb dX5_putFour_4 (by decide) (fun c_ => absurd c_ (by decide +kernel)) (fun _ => ?_)
  refine lv_aload_n hx hb dX5_putFour_7 rfl (lv_at hl 1 rfl) ?_
  refine k_get hC hK hP iX5 0 1 wf_X5_15 rfl (by decide) rfl rfl dX5_putFour_8 ?_
  refine lv_sipush (v := 1300) hx hb dX5_putFour_11 (by decide) ?_
  refine lv_icmp_ge (tgt := 40) hx hb dX5_putFour_14 (by decide) (fun c_ => absurd c_ (by decide +kernel)) (fun _ => ?_)
  refine lv_aload_n hx hb dX5_putFour_17 rfl (lv_at hl 1 rfl) ?_
  refine k_get hC hK hP iX5 0 0 wf_X5_9 rfl (by decide) rfl rfl dX5_putFour_18 ?_
  refine lv_aload_n hx hb dX5_putFour_21 rfl (lv_at hl 1 rfl) ?_
  refine k_get hC hK hP iX5 0 1 wf_X5_15 rfl (by decide) rfl rfl dX5_putFour_22 ?_
  refine lv_iload_n hx hb dX5_putFour_25 rfl (lv_at hl 2 rfl) ?_
  refine lv_iload_n hx hb dX5_putFour_26 rfl (lv_at hl 0 rfl) ?_
  refine lv_ishr hx hb dX5_putFour_27 ?_
  refine lv_i2b (v := ((x0 >>> (16 &&& 31)).toInt8.toInt32)) hx hb dX5_putFour_28 rfl ?_
  refine k_bast hC hK hP hD hS 1 13 (vp_nar .byte ((x0 >>> (16 &&& 31)).toInt8.toInt32)) rfl (by decide +kernel) (by decide) rfl dX5_putFour_29 (fun H locs hP hD hS => ?_)
  have hP : va_P G cl [(a0, .inr (5, [.ref a1, .int 13, .int 0, .int 0, .int 0, .long 0, .int 0])), (a1, .inl (cB, 1300, .inl (upd (upd f_n458 12 (vp_nar .byte ((x0 >>> (24 &&& 31)).toInt8.toInt32))) 13 (vp_nar .byte ((x0 >>> (16 &&& 31)).toInt8.toInt32)))))] H := hP
  have hD : va_D A [(a0, .inr (5, [.ref a1, .int 13, .int 0, .int 0, .int 0, .long 0, .int 0])), (a1, .inl (cB, 1300, .inl (upd (upd f_n458 12 (vp_nar .byte ((x0 >>> (24 &&& 31)).toInt8.toInt32))) 13 (vp_nar .byte ((x0 >>> (16 &&& 31)).toInt8.toInt32)))))] := hD
  refine lv_aload_n hx hb dX5_putFour_30 rfl (lv_at hl 1 rfl) ?_
  refine lv_dup hx hb dX5_putFour_31 rfl ?_
  refine k_get hC hK hP iX5 0 1 wf_X5_15 rfl (by decide) rfl rfl dX5_putFour_32 ?_
  refine lv_iconst (v := 1) hx hb dX5_putFour_35 (by decide) ?_
  refine lv_iadd hx hb dX5_putFour_36 ?_
  refine k_i 14 (by decide +kernel) ?_
  refine k_put hC hK hP hD hS iX5 tyX5_ok nmX5 0 1 wf_X5_15 rfl (by decide) rfl rfl rfl rfl (Nat.le_of_ble_eq_true rfl) dX5_putFour_37 (fun H locs hP hD hS => ?_)
  have hP : va_P G cl [(a0, .inr (5, [.ref a1, .int 14, .int 0, .int 0, .int 0, .long 0, .int 0])), (a1, .inl (cB, 1300, .inl (upd (upd f_n458 12 (vp_nar .byte ((x0 >>> (24 &&& 31)).toInt8.toInt32))) 13 (vp_nar .byte ((x0 >>> (16 &&& 31)).toInt8.toInt32)))))] H := hP
  have hD : va_D A [(a0, .inr (5, [.ref a1, .int 14, .int 0, .int 0, .int 0, .long 0, .int 0])), (a1, .inl (cB, 1300, .inl (upd (upd f_n458 12 (vp_nar .byte ((x0 >>> (24 &&& 31)).toInt8.toInt32))) 13 (vp_nar .byte ((x0 >>> (16 &&& 31)).toInt8.toInt32)))))] := hD
  refine lv_iinc (v := 8) (lv' := [(2, .int 8), (0, .ref a0), (1, .int x0)]) hx hb dX5_putFour_40 hl (k := 0) rfl (by decide +kernel) (by decide) rfl (fun ls hl => ?_)
  refine lv_goto (tgt := 3) hx hb dX5_putFour_43 (by decide) ?_
  refine lv_iload_n hx hb dX5_putFour_3 rfl (lv_at hl 0 rfl) ?_
  refine lv_if_lt (tgt := 46) hx hb dX5_putFour_4 (by decide) (fun c_ => absurd c_ (by decide +kernel)) (fun _ => ?_)
  refine lv_aload_n hx hb dX5_putFour_7 rfl (lv_at hl 1 rfl) ?_
  refine k_get hC hK hP iX5 0 1 wf_X5_15 rfl (by decide) rfl rfl dX5_putFour_8 ?_
  refine lv_sipush (v := 1300) hx hb dX5_putFour_11 (by decide) ?_
  refine lv_icmp_ge (tgt := 40) hx hb dX5_putFour_14 (by decide) (fun c_ => absurd c_ (by decide +kernel)) (fun _ => ?_)
  refine lv_aload_n hx hb dX5_putFour_17 rfl (lv_at hl 1 rfl) ?_
  refine k_get hC hK hP iX5 0 0 wf_X5_9 rfl (by decide) rfl rfl dX5_putFour_18 ?_
  refine lv_aload_n hx hb dX5_putFour_21 rfl (lv_at hl 1 rfl) ?_
  refine k_get hC hK hP iX5 0 1 wf_X5_15 rfl (by decide) rfl rfl dX5_putFour_22 ?_
  refine lv_iload_n hx hb dX5_putFour_25 rfl (lv_at hl 2 rfl) ?_
  refine lv_iload_n hx hb dX5_putFour_26 rfl (lv_at hl 0 rfl) ?_
  refine lv_ishr hx hb dX5_putFour_27 ?_
  refine lv_i2b (v := ((x0 >>> (8 &&& 31)).toInt8.toInt32)) hx hb dX5_putFour_28 rfl ?_
  refine k_bast hC hK hP hD hS 1 14 (vp_nar .byte ((x0 >>> (8 &&& 31)).toInt8.toInt32)) rfl (by decide +kernel) (by decide) rfl dX5_putFour_29 (fun H locs hP hD hS => ?_)
  have hP : va_P G cl [(a0, .inr (5, [.ref a1, .int 14, .int 0, .int 0, .int 0, .long 0, .int 0])), (a1, .inl (cB, 1300, .inl (upd (upd (upd f_n458 12 (vp_nar .byte ((x0 >>> (24 &&& 31)).toInt8.toInt32))) 13 (vp_nar .byte ((x0 >>> (16 &&& 31)).toInt8.toInt32))) 14 (vp_nar .byte ((x0 >>> (8 &&& 31)).toInt8.toInt32)))))] H := hP
  have hD : va_D A [(a0, .inr (5, [.ref a1, .int 14, .int 0, .int 0, .int 0, .long 0, .int 0])), (a1, .inl (cB, 1300, .inl (upd (upd (upd f_n458 12 (vp_nar .byte ((x0 >>> (24 &&& 31)).toInt8.toInt32))) 13 (vp_nar .byte ((x0 >>> (16 &&& 31)).toInt8.toInt32))) 14 (vp_nar .byte ((x0 >>> (8 &&& 31)).toInt8.toInt32)))))] := hD
  refine lv_aload_n hx hb dX5_putFour_30 rfl (lv_at hl 1 rfl) ?_
  refine lv_dup hx hb dX5_putFour_31 rfl ?_
  refine k_get hC hK hP iX5 0 1 wf_X5_15 rfl (by decide) rfl rfl dX5_putFour_32 ?_
  refine lv_iconst (v := 1) hx hb dX5_putFour_35 (by decide) ?_
  refine lv_iadd hx hb dX5_putFour_36 ?_
  refine k_i 15 (by decide +kernel) ?_
  refine k_put hC hK hP hD hS iX5 tyX5_ok nmX5 0 1 wf_X5_15 rfl (by decide) rfl rfl rfl rfl (Nat.le_of_ble_eq_true rfl) dX5_putFour_37 (fun H locs hP hD hS => ?_)
  have hP : va_P G cl [(a0, .inr (5, [.ref a1, .int 15, .int 0, .int 0, .int 0, .long 0, .int 0])), (a1, .inl (cB, 1300, .inl (upd (upd (upd f_n458 12 (vp_nar .byte ((x0 >>> (24 &&& 31)).toInt8.toInt32))) 13 (vp_nar .byte ((x0 >>> (16 &&& 31)).toInt8.toInt32))) 14 (vp_nar .byte ((x0 >>> (8 &&& 31)).toInt8.toInt32)))))] H := hP
  have hD : va_D A [(a0, .inr (5, [.ref a1, .int 15, .int 0, .int 0, .int 0, .long 0, .int 0])), (a1, .inl (cB, 1300, .inl (upd (upd (upd f_n458 12 (vp_nar .byte ((x0 >>> (24 &&& 31)).toInt8.toInt32))) 13 (vp_nar .byte ((x0 >>> (16 &&& 31)).toInt8.toInt32))) 14 (vp_nar .byte ((x0 >>> (8 &&& 31)).toInt8.toInt32)))))] := hD
  refine lv_iinc (v := 0) (lv' := [(2, .int 0), (0, .ref a0), (1, .int x0)]) hx hb dX5_putFour_40 hl (k := 0) rfl (by decide +kernel) (by decide) rfl (fun ls hl => ?_)
  refine lv_goto (tgt := 3) hx hb dX5_putFour_43 (by decide) ?_
  refine lv_iload_n hx hb dX5_putFour_3 rfl (lv_at hl 0 rfl) ?_
  refine lv_if_lt (tgt := 46) hx hb dX5_putFour_4 (by decide) (fun c_ => absurd c_ (by decide +kernel)) (fun _ => ?_)
  refine lv_aload_n hx hb dX5_putFour_7 rfl (lv_at hl 1 rfl) ?_
  refine k_get hC hK hP iX5 0 1 wf_X5_15 rfl (by decide) rfl rfl dX5_putFour_8 ?_
  refine lv_sipush (v := 1300) hx hb dX5_putFour_11 (by decide) ?_
  refine lv_icmp_ge (tgt := 40) hx hb dX5_putFour_14 (by decide) (fun c_ => absurd c_ (by decide +kernel)) (fun _ => ?_)
  refine lv_aload_n hx hb dX5_putFour_17 rfl (lv_at hl 1 rfl) ?_
  refine k_get hC hK hP iX5 0 0 wf_X5_9 rfl (by decide) rfl rfl dX5_putFour_18 ?_
  refine lv_aload_n hx hb dX5_putFour_21 rfl (lv_at hl 1 rfl) ?_
  refine k_get hC hK hP iX5 0 1 wf_X5_15 rfl (by decide) rfl rfl dX5_putFour_22 ?_
  refine lv_iload_n hx hb dX5_putFour_25 rfl (lv_at hl 2 rfl) ?_
  refine lv_iload_n hx hb dX5_putFour_26 rfl (lv_at hl 0 rfl) ?_
  refine lv_ishr hx hb dX5_putFour_27 ?_
  refine lv_i2b (v := ((x0 >>> (0 &&& 31)).toInt8.toInt32)) hx hb dX5_putFour_28 rfl ?_
  refine k_bast hC hK hP hD hS 1 15 (vp_nar .byte ((x0 >>> (0 &&& 31)).toInt8.toInt32)) rfl (by decide +kernel) (by decide) rfl dX5_putFour_29 (fun H locs hP hD hS => ?_)
  have hP : va_P G cl [(a0, .inr (5, [.ref a1, .int 15, .int 0, .int 0, .int 0, .long 0, .int 0])), (a1, .inl (cB, 1300, .inl (upd (upd (upd (upd f_n458 12 (vp_nar .byte ((x0 >>> (24 &&& 31)).toInt8.toInt32))) 13 (vp_nar .byte ((x0 >>> (16 &&& 31)).toInt8.toInt32))) 14 (vp_nar .byte ((x0 >>> (8 &&& 31)).toInt8.toInt32))) 15 (vp_nar .byte ((x0 >>> (0 &&& 31)).toInt8.toInt32)))))] H := hP
  have hD : va_D A [(a0, .inr (5, [.ref a1, .int 15, .int 0, .int 0, .int 0, .long 0, .int 0])), (a1, .inl (cB, 1300, .inl (upd (upd (upd (upd f_n458 12 (vp_nar .byte ((x0 >>> (24 &&& 31)).toInt8.toInt32))) 13 (vp_nar .byte ((x0 >>> (16 &&& 31)).toInt8.toInt32))) 14 (vp_nar .byte ((x0 >>> (8 &&& 31)).toInt8.toInt32))) 15 (vp_nar .byte ((x0 >>> (0 &&& 31)).toInt8.toInt32)))))] := hD
  refine lv_aload_n hx hb dX5_putFour_30 rfl (lv_at hl 1 rfl) ?_
  refine lv_dup hx hb dX5_putFour_31 rfl ?_
  refine k_get hC hK hP iX5 0 1 wf_X5_15 rfl (by decide) rfl rfl dX5_putFour_32 ?_
  refine lv_iconst (v := 1) hx hb dX5_putFour_35 (by decide) ?_
  refine lv_iadd hx hb dX5_putFour_36 ?_
  refine k_i 16 (by decide +kernel) ?_
  refine k_put hC hK hP hD hS iX5 tyX5_ok nmX5 0 1 wf_X5_15 rfl (by decide) rfl rfl rfl rfl (Nat.le_of_ble_eq_true rfl) dX5_putFour_37 (fun H locs hP hD hS => ?_)
  have hP : va_P G cl [(a0, .inr (5, [.ref a1, .int 16, .int 0, .int 0, .int 0, .long 0, .int 0])), (a1, .inl (cB, 1300, .inl (upd (upd (upd (upd f_n458 12 (vp_nar .byte ((x0 >>> (24 &&& 31)).toInt8.toInt32))) 13 (vp_nar .byte ((x0 >>> (16 &&& 31)).toInt8.toInt32))) 14 (vp_nar .byte ((x0 >>> (8 &&& 31)).toInt8.toInt32))) 15 (vp_nar .byte ((x0 >>> (0 &&& 31)).toInt8.toInt32)))))] H := hP
  have hD : va_D A [(a0, .inr (5, [.ref a1, .int 16, .int 0, .int 0, .int 0, .long 0, .int 0])), (a1, .inl (cB, 1300, .inl (upd (upd (upd (upd f_n458 12 (vp_nar .byte ((x0 >>> (24 &&& 31)).toInt8.toInt32))) 13 (vp_nar .byte ((x0 >>> (16 &&& 31)).toInt8.toInt32))) 14 (vp_nar .byte ((x0 >>> (8 &&& 31)).toInt8.toInt32))) 15 (vp_nar .byte ((x0 >>> (0 &&& 31)).toInt8.toInt32)))))] := hD
  refine lv_iinc (v := (-8)) (lv' := [(2, .int (-8)), (0, .ref a0), (1, .int x0)]) hx hb dX5_putFour_40 hl (k := 0) rfl (by decide +kernel) (by decide) rfl (fun ls hl => ?_)
  refine lv_goto (tgt := 3) hx hb dX5_putFour_43 (by decide) ?_
  refine lv_iload_n hx hb dX5_putFour_3 rfl (lv_at hl 0 rfl) ?_
  refine lv_if_lt (tgt := 46) hx hb dX5_putFour_4 (by decide) (fun _ => ?_) (fun c_ => absurd (by decide +kernel) c_)
  exact k_vret hC hr hlk hK hP hD hS (upd (upd (upd (upd f_n458 12 (vp_nar .byte ((x0 >>> (24 &&& 31)).toInt8.toInt32))) 13 (vp_nar .byte ((x0 >>> (16 &&& 31)).toInt8.toInt32))) 14 (vp_nar .byte ((x0 >>> (8 &&& 31)).toInt8.toInt32))) 15 (vp_nar .byte ((x0 >>> (0 &&& 31)).toInt8.toInt32))) [0, 1] rfl (by decide) trivial (Nat.le_of_ble_eq_true rfl) (Nat.le_of_ble_eq_true rfl) dX5_putFour_46
set_option maxHeartbeats 4000000 in
set_option maxRecDepth 100000 in
theorem c18_X5_putFour (l : Launch) (G : va_G) (cI cJ cB cZ : ClassId) (a0 a1 : Nat) (x0 : Int32) (f_n458 : Nat → Int32) : Con l G (TY cI cJ cB cZ) yX5_putFour cX5_putFour 3 none ({ frames := 0, cells := 0, slots := 0, locals := 0 } : Room) [.ref a0, .int x0] [(a0, .inr (5, [.ref a1, .int 16, .int 0, .int 0, .int 0, .long 0, .int 0])), (a1, .inl (cB, 1300, .inl f_n458))] (QV G (TY cI cJ cB cZ) (fun u : (Nat → Int32) => True) (fun u : (Nat → Int32) => [(a0, .inr (5, [.ref a1, .int 20, .int 0, .int 0, .int 0, .long 0, .int 0])), (a1, .inl (cB, 1300, .inl u))])) := by
  refine k_met (by decide) (Nat.le_of_ble_eq_true rfl) ?_
  intro p e s m below meth c A ls hC hr hlk hnm hN hK hA hP hD hS hl
  have hl : lv_has ls 3 [(0, .ref a0), (1, .int x0)] := hl
  obtain ⟨hx, hb, hml, hown, hts⟩ := id hC
  refine lv_bipush (v := 24) hx hb dX5_putFour_0 (by decide) ?_
  refine lv_istore_n (lv' := [(2, .int 24), (0, .ref a0), (1, .int x0)]) hx hb dX5_putFour_2 rfl hl (by decide) rfl (fun ls hl => ?_)
  refine lv_iload_n hx hb dX5_putFour_3 rfl (lv_at hl 0 rfl) ?_
  refine lv_if_lt (tgt := 46) hx hb dX5_putFour_4 (by decide) (fun c_ => absurd c_ (by decide +kernel)) (fun _ => ?_)
  refine lv_aload_n hx hb dX5_putFour_7 rfl (lv_at hl 1 rfl) ?_
  refine k_get hC hK hP iX5 0 1 wf_X5_15 rfl (by decide) rfl rfl dX5_putFour_8 ?_
  refine lv_sipush (v := 1300) hx hb dX5_putFour_11 (by decide) ?_
  refine lv_icmp_ge (tgt := 40) hx hb dX5_putFour_14 (by decide) (fun c_ => absurd c_ (by decide +kernel)) (fun _ => ?_)
  refine lv_aload_n hx hb dX5_putFour_17 rfl (lv_at hl 1 rfl) ?_
  refine k_get hC hK hP iX5 0 0 wf_X5_9 rfl (by decide) rfl rfl dX5_putFour_18 ?_
  refine lv_aload_n hx hb dX5_putFour_21 rfl (lv_at hl 1 rfl) ?_
  refine k_get hC hK hP iX5 0 1 wf_X5_15 rfl (by decide) rfl rfl dX5_putFour_22 ?_
  refine lv_iload_n hx hb dX5_putFour_25 rfl (lv_at hl 2 rfl) ?_
  refine lv_iload_n hx hb dX5_putFour_26 rfl (lv_at hl 0 rfl) ?_
  refine lv_ishr hx hb dX5_putFour_27 ?_
  refine lv_i2b (v := ((x0 >>> (24 &&& 31)).toInt8.toInt32)) hx hb dX5_putFour_28 rfl ?_
  refine k_bast hC hK hP hD hS 1 16 (vp_nar .byte ((x0 >>> (24 &&& 31)).toInt8.toInt32)) rfl (by decide +kernel) (by decide) rfl dX5_putFour_29 (fun H locs hP hD hS => ?_)
  have hP : va_P G cl [(a0, .inr (5, [.ref a1, .int 16, .int 0, .int 0, .int 0, .long 0, .int 0])), (a1, .inl (cB, 1300, .inl (upd f_n458 16 (vp_nar .byte ((x0 >>> (24 &&& 31)).toInt8.toInt32)))))] H := hP
  have hD : va_D A [(a0, .inr (5, [.ref a1, .int 16, .int 0, .int 0, .int 0, .long 0, .int 0])), (a1, .inl (cB, 1300, .inl (upd f_n458 16 (vp_nar .byte ((x0 >>> (24 &&& 31)).toInt8.toInt32)))))] := hD
  refine lv_aload_n hx hb dX5_putFour_30 rfl (lv_at hl 1 rfl) ?_
  refine lv_dup hx hb dX5_putFour_31 rfl ?_
  refine k_get hC hK hP iX5 0 1 wf_X5_15 rfl (by decide) rfl rfl dX5_putFour_32 ?_
  refine lv_iconst (v := 1) hx hb dX5_putFour_35 (by decide) ?_
  refine lv_iadd hx hb dX5_putFour_36 ?_
  refine k_i 17 (by decide +kernel) ?_
  refine k_put hC hK hP hD hS iX5 tyX5_ok nmX5 0 1 wf_X5_15 rfl (by decide) rfl rfl rfl rfl (Nat.le_of_ble_eq_true rfl) dX5_putFour_37 (fun H locs hP hD hS => ?_)
  have hP : va_P G cl [(a0, .inr (5, [.ref a1, .int 17, .int 0, .int 0, .int 0, .long 0, .int 0])), (a1, .inl (cB, 1300, .inl (upd f_n458 16 (vp_nar .byte ((x0 >>> (24 &&& 31)).toInt8.toInt32)))))] H := hP
  have hD : va_D A [(a0, .inr (5, [.ref a1, .int 17, .int 0, .int 0, .int 0, .long 0, .int 0])), (a1, .inl (cB, 1300, .inl (upd f_n458 16 (vp_nar .byte ((x0 >>> (24 &&& 31)).toInt8.toInt32)))))] := hD
  refine lv_iinc (v := 16) (lv' := [(2, .int 16), (0, .ref a0), (1, .int x0)]) hx hb dX5_putFour_40 hl (k := 0) rfl (by decide +kernel) (by decide) rfl (fun ls hl => ?_)
  refine lv_goto (tgt := 3) hx hb dX5_putFour_43 (by decide) ?_
  refine lv_iload_n hx hb dX5_putFour_3 rfl (lv_at hl 0 rfl) ?_
  refine lv_if_lt (tgt := 46) hx hb dX5_putFour_4 (by decide) (fun c_ => absurd c_ (by decide +kernel)) (fun _ => ?_)
  refine lv_aload_n hx hb dX5_putFour_7 rfl (lv_at hl 1 rfl) ?_
  refine k_get hC hK hP iX5 0 1 wf_X5_15 rfl (by decide) rfl rfl dX5_putFour_8 ?_
  refine lv_sipush (v := 1300) hx hb dX5_putFour_11 (by decide) ?_
  refine lv_icmp_ge (tgt := 40) hx hb dX5_putFour_14 (by decide) (fun c_ => absurd c_ (by decide +kernel)) (fun _ => ?_)
  refine lv_aload_n hx hb dX5_putFour_17 rfl (lv_at hl 1 rfl) ?_
  refine k_get hC hK hP iX5 0 0 wf_X5_9 rfl (by decide) rfl rfl dX5_putFour_18 ?_
  refine lv_aload_n hx hb dX5_putFour_21 rfl (lv_at hl 1 rfl) ?_
  refine k_get hC hK hP iX5 0 1 wf_X5_15 rfl (by decide) rfl rfl dX5_putFour_22 ?_
  refine lv_iload_n hx hb dX5_putFour_25 rfl (lv_at hl 2 rfl) ?_
  refine lv_iload_n hx hb dX5_putFour_26 rfl (lv_at hl 0 rfl) ?_
  refine lv_ishr hx hb dX5_putFour_27 ?_
  refine lv_i2b (v := ((x0 >>> (16 &&& 31)).toInt8.toInt32)) hx hb dX5_putFour_28 rfl ?_
  refine k_bast hC hK hP hD hS 1 17 (vp_nar .byte ((x0 >>> (16 &&& 31)).toInt8.toInt32)) rfl (by decide +kernel) (by decide) rfl dX5_putFour_29 (fun H locs hP hD hS => ?_)
  have hP : va_P G cl [(a0, .inr (5, [.ref a1, .int 17, .int 0, .int 0, .int 0, .long 0, .int 0])), (a1, .inl (cB, 1300, .inl (upd (upd f_n458 16 (vp_nar .byte ((x0 >>> (24 &&& 31)).toInt8.toInt32))) 17 (vp_nar .byte ((x0 >>> (16 &&& 31)).toInt8.toInt32)))))] H := hP
  have hD : va_D A [(a0, .inr (5, [.ref a1, .int 17, .int 0, .int 0, .int 0, .long 0, .int 0])), (a1, .inl (cB, 1300, .inl (upd (upd f_n458 16 (vp_nar .byte ((x0 >>> (24 &&& 31)).toInt8.toInt32))) 17 (vp_nar .byte ((x0 >>> (16 &&& 31)).toInt8.toInt32)))))] := hD
  refine lv_aload_n hx hb dX5_putFour_30 rfl (lv_at hl 1 rfl) ?_
  refine lv_dup hx hb dX5_putFour_31 rfl ?_
  refine k_get hC hK hP iX5 0 1 wf_X5_15 rfl (by decide) rfl rfl dX5_putFour_32 ?_
  refine lv_iconst (v := 1) hx hb dX5_putFour_35 (by decide) ?_
  refine lv_iadd hx hb dX5_putFour_36 ?_
  refine k_i 18 (by decide +kernel) ?_
  refine k_put hC hK hP hD hS iX5 tyX5_ok nmX5 0 1 wf_X5_15 rfl (by decide) rfl rfl rfl rfl (Nat.le_of_ble_eq_true rfl) dX5_putFour_37 (fun H locs hP hD hS => ?_)
  have hP : va_P G cl [(a0, .inr (5, [.ref a1, .int 18, .int 0, .int 0, .int 0, .long 0, .int 0])), (a1, .inl (cB, 1300, .inl (upd (upd f_n458 16 (vp_nar .byte ((x0 >>> (24 &&& 31)).toInt8.toInt32))) 17 (vp_nar .byte ((x0 >>> (16 &&& 31)).toInt8.toInt32)))))] H := hP
  have hD : va_D A [(a0, .inr (5, [.ref a1, .int 18, .int 0, .int 0, .int 0, .long 0, .int 0])), (a1, .inl (cB, 1300, .inl (upd (upd f_n458 16 (vp_nar .byte ((x0 >>> (24 &&& 31)).toInt8.toInt32))) 17 (vp_nar .byte ((x0 >>> (16 &&& 31)).toInt8.toInt32)))))] := hD
  refine lv_iinc (v := 8) (lv' := [(2, .int 8), (0, .ref a0), (1, .int x0)]) hx hb dX5_putFour_40 hl (k := 0) rfl (by decide +kernel) (by decide) rfl (fun ls hl => ?_)
  refine lv_goto (tgt := 3) hx hb dX5_putFour_43 (by decide) ?_
  refine lv_iload_n hx hb dX5_putFour_3 rfl (lv_at hl 0 rfl) ?_
  refine lv_if_lt (tgt := 46) hx hb dX5_putFour_4 (by decide) (fun c_ => absurd c_ (by decide +kernel)) (fun _ => ?_)
  refine lv_aload_n hx hb dX5_putFour_7 rfl (lv_at hl 1 rfl) ?_
  refine k_get hC hK hP iX5 0 1 wf_X5_15 rfl (by decide) rfl rfl dX5_putFour_8 ?_
  refine lv_sipush (v := 1300) hx hb dX5_putFour_11 (by decide) ?_
  refine lv_icmp_ge (tgt := 40) hx hb dX5_putFour_14 (by decide) (fun c_ => absurd c_ (by decide +kernel)) (fun _ => ?_)
  refine lv_aload_n hx hb dX5_putFour_17 rfl (lv_at hl 1 rfl) ?_
  refine k_get hC hK hP iX5 0 0 wf_X5_9 rfl (by decide) rfl rfl dX5_putFour_18 ?_
  refine lv_aload_n hx hb dX5_putFour_21 rfl (lv_at hl 1 rfl) ?_
  refine k_get hC hK hP iX5 0 1 wf_X5_15 rfl (by decide) rfl rfl dX5_putFour_22 ?_
  refine lv_iload_n hx hb dX5_putFour_25 rfl (lv_at hl 2 rfl) ?_
  refine lv_iload_n hx hb dX5_putFour_26 rfl (lv_at hl 0 rfl) ?_
  refine lv_ishr hx hb dX5_putFour_27 ?_
  refine lv_i2b (v := ((x0 >>> (8 &&& 31)).toInt8.toInt32)) hx hb dX5_putFour_28 rfl ?_
  refine k_bast hC hK hP hD hS 1 18 (vp_nar .byte ((x0 >>> (8 &&& 31)).toInt8.toInt32)) rfl (by decide +kernel) (by decide) rfl dX5_putFour_29 (fun H locs hP hD hS => ?_)
  have hP : va_P G cl [(a0, .inr (5, [.ref a1, .int 18, .int 0, .int 0, .int 0, .long 0, .int 0])), (a1, .inl (cB, 1300, .inl (upd (upd (upd f_n458 16 (vp_nar .byte ((x0 >>> (24 &&& 31)).toInt8.toInt32))) 17 (vp_nar .byte ((x0 >>> (16 &&& 31)).toInt8.toInt32))) 18 (vp_nar .byte ((x0 >>> (8 &&& 31)).toInt8.toInt32)))))] H := hP
  have hD : va_D A [(a0, .inr (5, [.ref a1, .int 18, .int 0, .int 0, .int 0, .long 0, .int 0])), (a1, .inl (cB, 1300, .inl (upd (upd (upd f_n458 16 (vp_nar .byte ((x0 >>> (24 &&& 31)).toInt8.toInt32))) 17 (vp_nar .byte ((x0 >>> (16 &&& 31)).toInt8.toInt32))) 18 (vp_nar .byte ((x0 >>> (8 &&& 31)).toInt8.toInt32)))))] := hD
  refine lv_aload_n hx hb dX5_putFour_30 rfl (lv_at hl 1 rfl) ?_
  refine lv_dup hx hb dX5_putFour_31 rfl ?_
  refine k_get hC hK hP iX5 0 1 wf_X5_15 rfl (by decide) rfl rfl dX5_putFour_32 ?_
  refine lv_iconst (v := 1) hx hb dX5_putFour_35 (by decide) ?_
  refine lv_iadd hx hb dX5_putFour_36 ?_
  refine k_i 19 (by decide +kernel) ?_
  refine k_put hC hK hP hD hS iX5 tyX5_ok nmX5 0 1 wf_X5_15 rfl (by decide) rfl rfl rfl rfl (Nat.le_of_ble_eq_true rfl) dX5_putFour_37 (fun H locs hP hD hS => ?_)
  have hP : va_P G cl [(a0, .inr (5, [.ref a1, .int 19, .int 0, .int 0, .int 0, .long 0, .int 0])), (a1, .inl (cB, 1300, .inl (upd (upd (upd f_n458 16 (vp_nar .byte ((x0 >>> (24 &&& 31)).toInt8.toInt32))) 17 (vp_nar .byte ((x0 >>> (16 &&& 31)).toInt8.toInt32))) 18 (vp_nar .byte ((x0 >>> (8 &&& 31)).toInt8.toInt32)))))] H := hP
  have hD : va_D A [(a0, .inr (5, [.ref a1, .int 19, .int 0, .int 0, .int 0, .long 0, .int 0])), (a1, .inl (cB, 1300, .inl (upd (upd (upd f_n458 16 (vp_nar .byte ((x0 >>> (24 &&& 31)).toInt8.toInt32))) 17 (vp_nar .byte ((x0 >>> (16 &&& 31)).toInt8.toInt32))) 18 (vp_nar .byte ((x0 >>> (8 &&& 31)).toInt8.toInt32)))))] := hD
  refine lv_iinc (v := 0) (lv' := [(2, .int 0), (0, .ref a0), (1, .int x0)]) hx hb dX5_putFour_40 hl (k := 0) rfl (by decide +kernel) (by decide) rfl (fun ls hl => ?_)
  refine lv_goto (tgt := 3) hx hb dX5_putFour_43 (by decide) ?_
  refine lv_iload_n hx hb dX5_putFour_3 rfl (lv_at hl 0 rfl) ?_
  refine lv_if_lt (tgt := 46) hx hb dX5_putFour_4 (by decide) (fun c_ => absurd c_ (by decide +kernel)) (fun _ => ?_)
  refine lv_aload_n hx hb dX5_putFour_7 rfl (lv_at hl 1 rfl) ?_
  refine k_get hC hK hP iX5 0 1 wf_X5_15 rfl (by decide) rfl rfl dX5_putFour_8 ?_
  refine lv_sipush (v := 1300) hx hb dX5_putFour_11 (by decide) ?_
  refine lv_icmp_ge (tgt := 40) hx hb dX5_putFour_14 (by decide) (fun c_ => absurd c_ (by decide +kernel)) (fun _ => ?_)
  refine lv_aload_n hx hb dX5_putFour_17 rfl (lv_at hl 1 rfl) ?_
  refine k_get hC hK hP iX5 0 0 wf_X5_9 rfl (by decide) rfl rfl dX5_putFour_18 ?_
  refine lv_aload_n hx hb dX5_putFour_21 rfl (lv_at hl 1 rfl) ?_
  refine k_get hC hK hP iX5 0 1 wf_X5_15 rfl (by decide) rfl rfl dX5_putFour_22 ?_
  refine lv_iload_n hx hb dX5_putFour_25 rfl (lv_at hl 2 rfl) ?_
  refine lv_iload_n hx hb dX5_putFour_26 rfl (lv_at hl 0 rfl) ?_
  refine lv_ishr hx hb dX5_putFour_27 ?_
  refine lv_i2b (v := ((x0 >>> (0 &&& 31)).toInt8.toInt32)) hx hb dX5_putFour_28 rfl ?_
  refine k_bast hC hK hP hD hS 1 19 (vp_nar .byte ((x0 >>> (0 &&& 31)).toInt8.toInt32)) rfl (by decide +kernel) (by decide) rfl dX5_putFour_29 (fun H locs hP hD hS => ?_)
  have hP : va_P G cl [(a0, .inr (5, [.ref a1, .int 19, .int 0, .int 0, .int 0, .long 0, .int 0])), (a1, .inl (cB, 1300, .inl (upd (upd (upd (upd f_n458 16 (vp_nar .byte ((x0 >>> (24 &&& 31)).toInt8.toInt32))) 17 (vp_nar .byte ((x0 >>> (16 &&& 31)).toInt8.toInt32))) 18 (vp_nar .byte ((x0 >>> (8 &&& 31)).toInt8.toInt32))) 19 (vp_nar .byte ((x0 >>> (0 &&& 31)).toInt8.toInt32)))))] H := hP
  have hD : va_D A [(a0, .inr (5, [.ref a1, .int 19, .int 0, .int 0, .int 0, .long 0, .int 0])), (a1, .inl (cB, 1300, .inl (upd (upd (upd (upd f_n458 16 (vp_nar .byte ((x0 >>> (24 &&& 31)).toInt8.toInt32))) 17 (vp_nar .byte ((x0 >>> (16 &&& 31)).toInt8.toInt32))) 18 (vp_nar .byte ((x0 >>> (8 &&& 31)).toInt8.toInt32))) 19 (vp_nar .byte ((x0 >>> (0 &&& 31)).toInt8.toInt32)))))] := hD
  refine lv_aload_n hx hb dX5_putFour_30 rfl (lv_at hl 1 rfl) ?_
  refine lv_dup hx hb dX5_putFour_31 rfl ?_
  refine k_get hC hK hP iX5 0 1 wf_X5_15 rfl (by decide) rfl rfl dX5_putFour_32 ?_
  refine lv_iconst (v := 1) hx hb dX5_putFour_35 (by decide) ?_
  refine lv_iadd hx hb dX5_putFour_36 ?_
  refine k_i 20 (by decide +kernel) ?_
  refine k_put hC hK hP hD hS iX5 tyX5_ok nmX5 0 1 wf_X5_15 rfl (by decide) rfl rfl rfl rfl (Nat.le_of_ble_eq_true rfl) dX5_putFour_37 (fun H locs hP hD hS => ?_)
  have hP : va_P G cl [(a0, .inr (5, [.ref a1, .int 20, .int 0, .int 0, .int 0, .long 0, .int 0])), (a1, .inl (cB, 1300, .inl (upd (upd (upd (upd f_n458 16 (vp_nar .byte ((x0 >>> (24 &&& 31)).toInt8.toInt32))) 17 (vp_nar .byte ((x0 >>> (16 &&& 31)).toInt8.toInt32))) 18 (vp_nar .byte ((x0 >>> (8 &&& 31)).toInt8.toInt32))) 19 (vp_nar .byte ((x0 >>> (0 &&& 31)).toInt8.toInt32)))))] H := hP
  have hD : va_D A [(a0, .inr (5, [.ref a1, .int 20, .int 0, .int 0, .int 0, .long 0, .int 0])), (a1, .inl (cB, 1300, .inl (upd (upd (upd (upd f_n458 16 (vp_nar .byte ((x0 >>> (24 &&& 31)).toInt8.toInt32))) 17 (vp_nar .byte ((x0 >>> (16 &&& 31)).toInt8.toInt32))) 18 (vp_nar .byte ((x0 >>> (8 &&& 31)).toInt8.toInt32))) 19 (vp_nar .byte ((x0 >>> (0 &&& 31)).toInt8.toInt32)))))] := hD
  refine lv_iinc (v := (-8)) (lv' := [(2, .int (-8)), (0, .ref a0), (1, .int x0)]) hx hb dX5_putFour_40 hl (k := 0) rfl (by decide +kernel) (by decide) rfl (fun ls hl => ?_)
  refine lv_goto (tgt := 3) hx hb dX5_putFour_43 (by decide) ?_
  refine lv_iload_n hx hb dX5_putFour_3 rfl (lv_at hl 0 rfl) ?_
  refine lv_if_lt (tgt := 46) hx hb dX5_putFour_4 (by decide) (fun _ => ?_) (fun c_ => absurd (by decide +kernel) c_)
  exact k_vret hC hr hlk hK hP hD hS (upd (upd (upd (upd f_n458 16 (vp_nar .byte ((x0 >>> (24 &&& 31)).toInt8.toInt32))) 17 (vp_nar .byte ((x0 >>> (16 &&& 31)).toInt8.toInt32))) 18 (vp_nar .byte ((x0 >>> (8 &&& 31)).toInt8.toInt32))) 19 (vp_nar .byte ((x0 >>> (0 &&& 31)).toInt8.toInt32))) [0, 1] rfl (by decide) trivial (Nat.le_of_ble_eq_true rfl) (Nat.le_of_ble_eq_true rfl) dX5_putFour_46
theorem dX9_feed_0 : decode cX9_feed 0 = .ok (.aload_n 0, 1) := by decide +kernel
theorem dX9_feed_1 : decode cX9_feed 1 = .ok (.getfield 19, 3) := by decide +kernel
theorem dX9_feed_4 : decode cX9_feed 4 = .ok (.getfield 65, 3) := by decide +kernel
set_option maxRecDepth 100000 in
theorem wf_X9_65 : Cond.fieldLinkNest RX9 65 "StoneTrust$Reader" "tape" "LStoneTrust$Tape;" "StoneTrust" ∈ nests := nm_ (List.mem_of_getElem? (i := 340) (by decide +kernel)) rfl
theorem dX9_feed_7 : decode cX9_feed 7 = .ok (.astore 6, 2) := by decide +kernel
theorem dX9_feed_9 : decode cX9_feed 9 = .ok (.aload 6, 2) := by decide +kernel
theorem dX9_feed_11 : decode cX9_feed 11 = .ok (.getfield 69, 3) := by decide +kernel
set_option maxRecDepth 100000 in
theorem wf_X9_69 : Cond.fieldLinkNest RX9 69 "StoneTrust$Tape" "length" "I" "StoneTrust" ∈ nests := nm_ (List.mem_of_getElem? (i := 311) (by decide +kernel)) rfl
theorem dX9_feed_14 : decode cX9_feed 14 = .ok (.bipush 20, 2) := by decide +kernel
theorem dX9_feed_16 : decode cX9_feed 16 = .ok (.iadd, 1) := by decide +kernel
theorem dX9_feed_17 : decode cX9_feed 17 = .ok (.sipush 1300, 3) := by decide +kernel
theorem dX9_feed_20 : decode cX9_feed 20 = .ok (.if_icmp .le 5, 3) := by decide +kernel
theorem dX9_feed_25 : decode cX9_feed 25 = .ok (.aload 6, 2) := by decide +kernel
theorem dX9_feed_27 : decode cX9_feed 27 = .ok (.iload_n 1, 1) := by decide +kernel
theorem dX9_feed_28 : decode cX9_feed 28 = .ok (.invokevirtual 74, 3) := by decide +kernel
set_option maxRecDepth 100000 in
theorem wm_X9_74 : Cond.methodLink RX9 74 yX5_putFour ∈ gw := gm (List.mem_of_getElem? (i := 571) (by decide +kernel)) rfl
set_option maxRecDepth 100000 in
theorem mi_X5_putFour : MI yX5_putFour cX5_putFour 3 none 1 := ⟨gm (List.mem_of_getElem? (i := 574) rfl) rfl, gm (List.mem_of_getElem? (i := 119) (by decide +kernel)) rfl, by decide, by decide, by decide +kernel⟩
set_option maxRecDepth 100000 in
theorem in_X5_putFour : Cond.instanceMethod yX5_putFour ∈ gw := gm (List.mem_of_getElem? (i := 572) (by decide +kernel)) rfl
set_option maxRecDepth 100000 in
theorem se_X5_putFour : Cond.selects yX5_putFour.cls yX5_putFour yX5_putFour ∈ gw := gm (List.mem_of_getElem? (i := 573) (by decide +kernel)) rfl
theorem dX9_feed_31 : decode cX9_feed 31 = .ok (.aload 6, 2) := by decide +kernel
theorem dX9_feed_33 : decode cX9_feed 33 = .ok (.iload_n 2, 1) := by decide +kernel
theorem dX9_feed_34 : decode cX9_feed 34 = .ok (.invokevirtual 74, 3) := by decide +kernel
theorem dX9_feed_37 : decode cX9_feed 37 = .ok (.aload 6, 2) := by decide +kernel
theorem dX9_feed_39 : decode cX9_feed 39 = .ok (.iload_n 3, 1) := by decide +kernel
theorem dX9_feed_40 : decode cX9_feed 40 = .ok (.invokevirtual 74, 3) := by decide +kernel
theorem dX9_feed_43 : decode cX9_feed 43 = .ok (.aload 6, 2) := by decide +kernel
theorem dX9_feed_45 : decode cX9_feed 45 = .ok (.iload 4, 2) := by decide +kernel
theorem dX9_feed_47 : decode cX9_feed 47 = .ok (.invokevirtual 74, 3) := by decide +kernel
theorem dX9_feed_50 : decode cX9_feed 50 = .ok (.aload 6, 2) := by decide +kernel
theorem dX9_feed_52 : decode cX9_feed 52 = .ok (.iload 5, 2) := by decide +kernel
theorem dX9_feed_54 : decode cX9_feed 54 = .ok (.invokevirtual 74, 3) := by decide +kernel
theorem dX9_feed_57 : decode cX9_feed 57 = .ok (.aload 6, 2) := by decide +kernel
theorem dX9_feed_59 : decode cX9_feed 59 = .ok (.getfield 69, 3) := by decide +kernel
theorem dX9_feed_62 : decode cX9_feed 62 = .ok (.ireturn, 1) := by decide +kernel
set_option maxHeartbeats 4000000 in
set_option maxRecDepth 100000 in
theorem c19_X9_feed (l : Launch) (G : va_G) (cI cJ cB cZ : ClassId) (a0 a1 a2 a3 a4 a5 a6 a7 a8 a9 a10 : Nat) (x0 : Int32) (x1 : Int32) (x2 : Int32) (x3 : Int32) (x4 : Int32) : Con l G (TY cI cJ cB cZ) yX9_feed cX9_feed 7 (some .int) ({ frames := 1, cells := 0, slots := 0, locals := 22 } : Room) [.ref a0, .int x0, .int x1, .int x2, .int x3, .int x4] [(a0, .inr (9, [.ref a1, .ref a2, .ref a3, .int 0, .int 0, .ref a4, .ref a5, .ref a6, .ref a7])), (a2, .inr (2, [.ref a8, .ref a9, .int 0, .int 0, .int 0, .int 0, .int 0, .int (-1)])), (a8, .inr (5, [.ref a10, .int 0, .int 0, .int 0, .int 0, .long 0, .int 0])), (a10, .inl (cB, 1300, .inl (fun _ => 0)))] (QI G (TY cI cJ cB cZ) (fun (r : Int32) (u : Unit) => r = 20) (fun u : Unit => [])) := by
  refine k_met (by decide) (Nat.le_of_ble_eq_true rfl) ?_
  intro p e s m below meth c A ls hC hr hlk hnm hN hK hA hP hD hS hl
  have hl : lv_has ls 7 [(0, .ref a0), (1, .int x0), (2, .int x1), (3, .int x2), (4, .int x3), (5, .int x4)] := hl
  obtain ⟨hx, hb, hml, hown, hts⟩ := id hC
  refine lv_aload_n hx hb dX9_feed_0 rfl (lv_at hl 0 rfl) ?_
  refine k_get hC hK hP iX9 0 1 wf_X9_19 rfl (by decide) rfl rfl dX9_feed_1 ?_
  refine k_getN hC hN hK hP iX2 1 0 wf_X9_65 rfl (by decide) rfl rfl dX9_feed_4 ?_
  refine lv_astore (lv' := [(6, .ref a8), (0, .ref a0), (1, .int x0), (2, .int x1), (3, .int x2), (4, .int x3), (5, .int x4)]) hx hb dX9_feed_7 hl (by decide) rfl (fun ls hl => ?_)
  refine lv_aload hx hb dX9_feed_9 (lv_at hl 0 rfl) ?_
  refine k_getN hC hN hK hP iX5 2 1 wf_X9_69 rfl (by decide) rfl rfl dX9_feed_11 ?_
  refine lv_bipush (v := 20) hx hb dX9_feed_14 (by decide) ?_
  refine lv_iadd hx hb dX9_feed_16 ?_
  refine k_i 20 (by decide +kernel) ?_
  refine lv_sipush (v := 1300) hx hb dX9_feed_17 (by decide) ?_
  refine lv_icmp_le (tgt := 25) hx hb dX9_feed_20 (by decide) (fun _ => ?_) (fun c_ => absurd (by decide +kernel) c_)
  refine lv_aload hx hb dX9_feed_25 (lv_at hl 0 rfl) ?_
  refine lv_iload_n hx hb dX9_feed_27 rfl (lv_at hl 2 rfl) ?_
  refine k_cv (wr := [(a0, .inr (9, [.ref a1, .ref a2, .ref a3, .int 0, .int 0, .ref a4, .ref a5, .ref a6, .ref a7])), (a2, .inr (2, [.ref a8, .ref a9, .int 0, .int 0, .int 0, .int 0, .int 0, .int (-1)]))]) (k_rV hC hN hK hP hD (c14_X5_putFour l G cI cJ cB cZ a8 a10 x0) [2, 3] rfl (by decide) mi_X5_putFour in_X5_putFour se_X5_putFour wm_X9_74 5 2 rfl rfl rfl hl.1 rfl rfl (Nat.le_of_ble_eq_true rfl) ⟨(Nat.le_of_ble_eq_true rfl), (Nat.le_of_ble_eq_true rfl)⟩ dX9_feed_28 ⟨(Nat.le_of_ble_eq_true rfl), (Nat.le_of_ble_eq_true rfl)⟩) hP hD hS hA [2, 3] [0, 1] rfl rfl (by decide) (by decide) (fun u1 H locs hp hP hD hS => ?_)
  have hP : va_P G cl [(a0, .inr (9, [.ref a1, .ref a2, .ref a3, .int 0, .int 0, .ref a4, .ref a5, .ref a6, .ref a7])), (a2, .inr (2, [.ref a8, .ref a9, .int 0, .int 0, .int 0, .int 0, .int 0, .int (-1)])), (a8, .inr (5, [.ref a10, .int 4, .int 0, .int 0, .int 0, .long 0, .int 0])), (a10, .inl (cB, 1300, .inl u1))] H := hP
  have hD : va_D A [(a0, .inr (9, [.ref a1, .ref a2, .ref a3, .int 0, .int 0, .ref a4, .ref a5, .ref a6, .ref a7])), (a2, .inr (2, [.ref a8, .ref a9, .int 0, .int 0, .int 0, .int 0, .int 0, .int (-1)])), (a8, .inr (5, [.ref a10, .int 4, .int 0, .int 0, .int 0, .long 0, .int 0])), (a10, .inl (cB, 1300, .inl u1))] := hD
  refine lv_aload hx hb dX9_feed_31 (lv_at hl 0 rfl) ?_
  refine lv_iload_n hx hb dX9_feed_33 rfl (lv_at hl 3 rfl) ?_
  refine k_cv (wr := [(a0, .inr (9, [.ref a1, .ref a2, .ref a3, .int 0, .int 0, .ref a4, .ref a5, .ref a6, .ref a7])), (a2, .inr (2, [.ref a8, .ref a9, .int 0, .int 0, .int 0, .int 0, .int 0, .int (-1)]))]) (k_rV hC hN hK hP hD (c15_X5_putFour l G cI cJ cB cZ a8 a10 x1 u1) [2, 3] rfl (by decide) mi_X5_putFour in_X5_putFour se_X5_putFour wm_X9_74 5 2 rfl rfl rfl hl.1 rfl rfl (Nat.le_of_ble_eq_true rfl) ⟨(Nat.le_of_ble_eq_true rfl), (Nat.le_of_ble_eq_true rfl)⟩ dX9_feed_34 ⟨(Nat.le_of_ble_eq_true rfl), (Nat.le_of_ble_eq_true rfl)⟩) hP hD hS hA [2, 3] [0, 1] rfl rfl (by decide) (by decide) (fun u2 H locs hp hP hD hS => ?_)
  have hP : va_P G cl [(a0, .inr (9, [.ref a1, .ref a2, .ref a3, .int 0, .int 0, .ref a4, .ref a5, .ref a6, .ref a7])), (a2, .inr (2, [.ref a8, .ref a9, .int 0, .int 0, .int 0, .int 0, .int 0, .int (-1)])), (a8, .inr (5, [.ref a10, .int 8, .int 0, .int 0, .int 0, .long 0, .int 0])), (a10, .inl (cB, 1300, .inl u2))] H := hP
  have hD : va_D A [(a0, .inr (9, [.ref a1, .ref a2, .ref a3, .int 0, .int 0, .ref a4, .ref a5, .ref a6, .ref a7])), (a2, .inr (2, [.ref a8, .ref a9, .int 0, .int 0, .int 0, .int 0, .int 0, .int (-1)])), (a8, .inr (5, [.ref a10, .int 8, .int 0, .int 0, .int 0, .long 0, .int 0])), (a10, .inl (cB, 1300, .inl u2))] := hD
  refine lv_aload hx hb dX9_feed_37 (lv_at hl 0 rfl) ?_
  refine lv_iload_n hx hb dX9_feed_39 rfl (lv_at hl 4 rfl) ?_
  refine k_cv (wr := [(a0, .inr (9, [.ref a1, .ref a2, .ref a3, .int 0, .int 0, .ref a4, .ref a5, .ref a6, .ref a7])), (a2, .inr (2, [.ref a8, .ref a9, .int 0, .int 0, .int 0, .int 0, .int 0, .int (-1)]))]) (k_rV hC hN hK hP hD (c16_X5_putFour l G cI cJ cB cZ a8 a10 x2 u2) [2, 3] rfl (by decide) mi_X5_putFour in_X5_putFour se_X5_putFour wm_X9_74 5 2 rfl rfl rfl hl.1 rfl rfl (Nat.le_of_ble_eq_true rfl) ⟨(Nat.le_of_ble_eq_true rfl), (Nat.le_of_ble_eq_true rfl)⟩ dX9_feed_40 ⟨(Nat.le_of_ble_eq_true rfl), (Nat.le_of_ble_eq_true rfl)⟩) hP hD hS hA [2, 3] [0, 1] rfl rfl (by decide) (by decide) (fun u3 H locs hp hP hD hS => ?_)
  have hP : va_P G cl [(a0, .inr (9, [.ref a1, .ref a2, .ref a3, .int 0, .int 0, .ref a4, .ref a5, .ref a6, .ref a7])), (a2, .inr (2, [.ref a8, .ref a9, .int 0, .int 0, .int 0, .int 0, .int 0, .int (-1)])), (a8, .inr (5, [.ref a10, .int 12, .int 0, .int 0, .int 0, .long 0, .int 0])), (a10, .inl (cB, 1300, .inl u3))] H := hP
  have hD : va_D A [(a0, .inr (9, [.ref a1, .ref a2, .ref a3, .int 0, .int 0, .ref a4, .ref a5, .ref a6, .ref a7])), (a2, .inr (2, [.ref a8, .ref a9, .int 0, .int 0, .int 0, .int 0, .int 0, .int (-1)])), (a8, .inr (5, [.ref a10, .int 12, .int 0, .int 0, .int 0, .long 0, .int 0])), (a10, .inl (cB, 1300, .inl u3))] := hD
  refine lv_aload hx hb dX9_feed_43 (lv_at hl 0 rfl) ?_
  refine lv_iload hx hb dX9_feed_45 (lv_at hl 5 rfl) ?_
  refine k_cv (wr := [(a0, .inr (9, [.ref a1, .ref a2, .ref a3, .int 0, .int 0, .ref a4, .ref a5, .ref a6, .ref a7])), (a2, .inr (2, [.ref a8, .ref a9, .int 0, .int 0, .int 0, .int 0, .int 0, .int (-1)]))]) (k_rV hC hN hK hP hD (c17_X5_putFour l G cI cJ cB cZ a8 a10 x3 u3) [2, 3] rfl (by decide) mi_X5_putFour in_X5_putFour se_X5_putFour wm_X9_74 5 2 rfl rfl rfl hl.1 rfl rfl (Nat.le_of_ble_eq_true rfl) ⟨(Nat.le_of_ble_eq_true rfl), (Nat.le_of_ble_eq_true rfl)⟩ dX9_feed_47 ⟨(Nat.le_of_ble_eq_true rfl), (Nat.le_of_ble_eq_true rfl)⟩) hP hD hS hA [2, 3] [0, 1] rfl rfl (by decide) (by decide) (fun u4 H locs hp hP hD hS => ?_)
  have hP : va_P G cl [(a0, .inr (9, [.ref a1, .ref a2, .ref a3, .int 0, .int 0, .ref a4, .ref a5, .ref a6, .ref a7])), (a2, .inr (2, [.ref a8, .ref a9, .int 0, .int 0, .int 0, .int 0, .int 0, .int (-1)])), (a8, .inr (5, [.ref a10, .int 16, .int 0, .int 0, .int 0, .long 0, .int 0])), (a10, .inl (cB, 1300, .inl u4))] H := hP
  have hD : va_D A [(a0, .inr (9, [.ref a1, .ref a2, .ref a3, .int 0, .int 0, .ref a4, .ref a5, .ref a6, .ref a7])), (a2, .inr (2, [.ref a8, .ref a9, .int 0, .int 0, .int 0, .int 0, .int 0, .int (-1)])), (a8, .inr (5, [.ref a10, .int 16, .int 0, .int 0, .int 0, .long 0, .int 0])), (a10, .inl (cB, 1300, .inl u4))] := hD
  refine lv_aload hx hb dX9_feed_50 (lv_at hl 0 rfl) ?_
  refine lv_iload hx hb dX9_feed_52 (lv_at hl 6 rfl) ?_
  refine k_cv (wr := [(a0, .inr (9, [.ref a1, .ref a2, .ref a3, .int 0, .int 0, .ref a4, .ref a5, .ref a6, .ref a7])), (a2, .inr (2, [.ref a8, .ref a9, .int 0, .int 0, .int 0, .int 0, .int 0, .int (-1)]))]) (k_rV hC hN hK hP hD (c18_X5_putFour l G cI cJ cB cZ a8 a10 x4 u4) [2, 3] rfl (by decide) mi_X5_putFour in_X5_putFour se_X5_putFour wm_X9_74 5 2 rfl rfl rfl hl.1 rfl rfl (Nat.le_of_ble_eq_true rfl) ⟨(Nat.le_of_ble_eq_true rfl), (Nat.le_of_ble_eq_true rfl)⟩ dX9_feed_54 ⟨(Nat.le_of_ble_eq_true rfl), (Nat.le_of_ble_eq_true rfl)⟩) hP hD hS hA [2, 3] [0, 1] rfl rfl (by decide) (by decide) (fun u5 H locs hp hP hD hS => ?_)
  have hP : va_P G cl [(a0, .inr (9, [.ref a1, .ref a2, .ref a3, .int 0, .int 0, .ref a4, .ref a5, .ref a6, .ref a7])), (a2, .inr (2, [.ref a8, .ref a9, .int 0, .int 0, .int 0, .int 0, .int 0, .int (-1)])), (a8, .inr (5, [.ref a10, .int 20, .int 0, .int 0, .int 0, .long 0, .int 0])), (a10, .inl (cB, 1300, .inl u5))] H := hP
  have hD : va_D A [(a0, .inr (9, [.ref a1, .ref a2, .ref a3, .int 0, .int 0, .ref a4, .ref a5, .ref a6, .ref a7])), (a2, .inr (2, [.ref a8, .ref a9, .int 0, .int 0, .int 0, .int 0, .int 0, .int (-1)])), (a8, .inr (5, [.ref a10, .int 20, .int 0, .int 0, .int 0, .long 0, .int 0])), (a10, .inl (cB, 1300, .inl u5))] := hD
  refine lv_aload hx hb dX9_feed_57 (lv_at hl 0 rfl) ?_
  refine k_getN hC hN hK hP iX5 2 1 wf_X9_69 rfl (by decide) rfl rfl dX9_feed_59 ?_
  exact k_iret hC hr hlk hK hP hD hS () [] rfl (by decide) rfl (Nat.le_of_ble_eq_true rfl) (Nat.le_of_ble_eq_true rfl) dX9_feed_62
theorem dX9_end_0 : decode cX9_end 0 = .ok (.iload_n 1, 1) := by decide +kernel
theorem dX9_end_1 : decode cX9_end 1 = .ok (.ifCond .lt 17, 3) := by decide +kernel
theorem dX9_end_18 : decode cX9_end 18 = .ok (.iconst (-1), 1) := by decide +kernel
theorem dX9_end_19 : decode cX9_end 19 = .ok (.ireturn, 1) := by decide +kernel
theorem dX9_end_4 : decode cX9_end 4 = .ok (.iload_n 1, 1) := by decide +kernel
theorem dX9_end_5 : decode cX9_end 5 = .ok (.aload_n 0, 1) := by decide +kernel
theorem dX9_end_6 : decode cX9_end 6 = .ok (.getfield 19, 3) := by decide +kernel
theorem dX9_end_9 : decode cX9_end 9 = .ok (.getfield 65, 3) := by decide +kernel
theorem dX9_end_12 : decode cX9_end 12 = .ok (.getfield 69, 3) := by decide +kernel
theorem dX9_end_15 : decode cX9_end 15 = .ok (.if_icmp .le 5, 3) := by decide +kernel
theorem dX9_end_20 : decode cX9_end 20 = .ok (.aload_n 0, 1) := by decide +kernel
theorem dX9_end_21 : decode cX9_end 21 = .ok (.getfield 19, 3) := by decide +kernel
theorem dX9_end_24 : decode cX9_end 24 = .ok (.getfield 65, 3) := by decide +kernel
theorem dX9_end_27 : decode cX9_end 27 = .ok (.iload_n 1, 1) := by decide +kernel
theorem dX9_end_28 : decode cX9_end 28 = .ok (.putfield 69, 3) := by decide +kernel
theorem dX9_end_31 : decode cX9_end 31 = .ok (.iload_n 1, 1) := by decide +kernel
theorem dX9_end_32 : decode cX9_end 32 = .ok (.ireturn, 1) := by decide +kernel
set_option maxHeartbeats 4000000 in
set_option maxRecDepth 100000 in
theorem c20_X9_end (l : Launch) (G : va_G) (cI cJ cB cZ : ClassId) (a0 a1 a2 a3 a4 a5 a6 a7 a8 a9 a10 : Nat) (x0 : Int32) : Con l G (TY cI cJ cB cZ) yX9_end cX9_end 2 (some .int) ({ frames := 0, cells := 0, slots := 0, locals := 0 } : Room) [.ref a0, .int x0] [(a0, .inr (9, [.ref a1, .ref a2, .ref a3, .int 0, .int 0, .ref a4, .ref a5, .ref a6, .ref a7])), (a2, .inr (2, [.ref a8, .ref a9, .int 0, .int 0, .int 0, .int 0, .int 0, .int (-1)])), (a8, .inr (5, [.ref a10, .int 0, .int 0, .int 0, .int 0, .long 0, .int 0]))] (QI G (TY cI cJ cB cZ) (fun (r : Int32) (u : Unit) => r = sp_end x0) (fun u : Unit => [])) := by
  refine k_met (by decide) (Nat.le_of_ble_eq_true rfl) ?_
  intro p e s m below meth c A ls hC hr hlk hnm hN hK hA hP hD hS hl
  have hl : lv_has ls 2 [(0, .ref a0), (1, .int x0)] := hl
  obtain ⟨hx, hb, hml, hown, hts⟩ := id hC
  refine lv_iload_n hx hb dX9_end_0 rfl (lv_at hl 1 rfl) ?_
  refine lv_if_lt (tgt := 18) hx hb dX9_end_1 (by decide) (fun c_1 => ?_) (fun c_1 => ?_)
  · have d_1 : x0.toInt < 0 := (fa_lt _ _).mp c_1
    refine lv_iconst (v := (-1)) hx hb dX9_end_18 (by decide) ?_
    exact k_iret hC hr hlk hK hP hD hS () [] rfl (by decide) (by first | decide | (unfold sp_end; rw [if_neg (by omega)]) | (unfold sp_end; rw [if_pos (by omega)])) (Nat.le_of_ble_eq_true rfl) (Nat.le_of_ble_eq_true rfl) dX9_end_19
  · have d_1 : 0 ≤ x0.toInt := fa_nlt c_1
    refine lv_iload_n hx hb dX9_end_4 rfl (lv_at hl 1 rfl) ?_
    refine lv_aload_n hx hb dX9_end_5 rfl (lv_at hl 0 rfl) ?_
    refine k_get hC hK hP iX9 0 1 wf_X9_19 rfl (by decide) rfl rfl dX9_end_6 ?_
    refine k_getN hC hN hK hP iX2 1 0 wf_X9_65 rfl (by decide) rfl rfl dX9_end_9 ?_
    refine k_getN hC hN hK hP iX5 2 1 wf_X9_69 rfl (by decide) rfl rfl dX9_end_12 ?_
    refine lv_icmp_le (tgt := 20) hx hb dX9_end_15 (by decide) (fun c_2 => ?_) (fun c_2 => ?_)
    · have d_2 : x0.toInt ≤ 0 := (fa_le _ _).mp c_2
      obtain rfl : x0 = 0 := (fa_eq _ _).mpr (show x0.toInt = 0 by omega)
      refine lv_aload_n hx hb dX9_end_20 rfl (lv_at hl 0 rfl) ?_
      refine k_get hC hK hP iX9 0 1 wf_X9_19 rfl (by decide) rfl rfl dX9_end_21 ?_
      refine k_getN hC hN hK hP iX2 1 0 wf_X9_65 rfl (by decide) rfl rfl dX9_end_24 ?_
      refine lv_iload_n hx hb dX9_end_27 rfl (lv_at hl 1 rfl) ?_
      refine k_putN hC hN hK hP hD hS iX5 tyX5_ok nmX5 2 1 wf_X9_69 rfl (by decide) rfl rfl rfl rfl (Nat.le_of_ble_eq_true rfl) dX9_end_28 (fun H locs hP hD hS => ?_)
      have hP : va_P G cl [(a0, .inr (9, [.ref a1, .ref a2, .ref a3, .int 0, .int 0, .ref a4, .ref a5, .ref a6, .ref a7])), (a2, .inr (2, [.ref a8, .ref a9, .int 0, .int 0, .int 0, .int 0, .int 0, .int (-1)])), (a8, .inr (5, [.ref a10, .int 0, .int 0, .int 0, .int 0, .long 0, .int 0]))] H := hP
      have hD : va_D A [(a0, .inr (9, [.ref a1, .ref a2, .ref a3, .int 0, .int 0, .ref a4, .ref a5, .ref a6, .ref a7])), (a2, .inr (2, [.ref a8, .ref a9, .int 0, .int 0, .int 0, .int 0, .int 0, .int (-1)])), (a8, .inr (5, [.ref a10, .int 0, .int 0, .int 0, .int 0, .long 0, .int 0]))] := hD
      refine lv_iload_n hx hb dX9_end_31 rfl (lv_at hl 1 rfl) ?_
      exact k_iret hC hr hlk hK hP hD hS () [] rfl (by decide) (by first | decide | (unfold sp_end; rw [if_neg (by omega)]) | (unfold sp_end; rw [if_pos (by omega)])) (Nat.le_of_ble_eq_true rfl) (Nat.le_of_ble_eq_true rfl) dX9_end_32
    · have d_2 : 0 < x0.toInt := fa_nle c_2
      refine lv_iconst (v := (-1)) hx hb dX9_end_18 (by decide) ?_
      exact k_iret hC hr hlk hK hP hD hS () [] rfl (by decide) (by first | decide | (unfold sp_end; rw [if_neg (by omega)]) | (unfold sp_end; rw [if_pos (by omega)])) (Nat.le_of_ble_eq_true rfl) (Nat.le_of_ble_eq_true rfl) dX9_end_19
set_option maxHeartbeats 4000000 in
set_option maxRecDepth 100000 in
theorem c21_J7_fill_53178 (l : Launch) (G : va_G) (cI cJ cB cZ : ClassId) (a0 : Nat) : Con l G (TY cI cJ cB cZ) yJ7_fill_53178 cJ7_fill_53178 4 none ({ frames := 0, cells := 0, slots := 0, locals := 0 } : Room) [.ref a0, .int 16] [(a0, .inl (cI, 2, .inl (upd (upd (fun _ => 0) 0 16) 1 16)))] (QV G (TY cI cJ cB cZ) (fun u : Unit => True) (fun u : Unit => [(a0, .inl (cI, 2, .inl (upd (upd (fun _ => 0) 0 16) 1 16)))])) := by
  refine k_met (by decide) (Nat.le_of_ble_eq_true rfl) ?_
  intro p e s m below meth c A ls hC hr hlk hnm hN hK hA hP hD hS hl
  have hl : lv_has ls 4 [(0, .ref a0), (1, .int 16)] := hl
  obtain ⟨hx, hb, hml, hown, hts⟩ := id hC
  refine lv_iconst (v := 0) hx hb dJ7_fill_53178_0 (by decide) ?_
  refine lv_istore_n (lv' := [(2, .int 0), (0, .ref a0), (1, .int 16)]) hx hb dJ7_fill_53178_1 rfl hl (by decide) rfl (fun ls hl => ?_)
  refine lv_aload_n hx hb dJ7_fill_53178_2 rfl (lv_at hl 1 rfl) ?_
  refine k_alen hC hK hP 0 0 2 rfl rfl (by decide +kernel) dJ7_fill_53178_3 ?_
  refine lv_istore_n (lv' := [(3, .int 2), (2, .int 0), (0, .ref a0), (1, .int 16)]) hx hb dJ7_fill_53178_4 rfl hl (by decide) rfl (fun ls hl => ?_)
  refine lv_iload_n hx hb dJ7_fill_53178_5 rfl (lv_at hl 1 rfl) ?_
  refine lv_iload_n hx hb dJ7_fill_53178_6 rfl (lv_at hl 0 rfl) ?_
  refine lv_icmp_ge (tgt := 20) hx hb dJ7_fill_53178_7 (by decide) (fun c_ => absurd c_ (by decide +kernel)) (fun _ => ?_)
  refine lv_aload_n hx hb dJ7_fill_53178_10 rfl (lv_at hl 2 rfl) ?_
  refine lv_iload_n hx hb dJ7_fill_53178_11 rfl (lv_at hl 1 rfl) ?_
  refine lv_iload_n hx hb dJ7_fill_53178_12 rfl (lv_at hl 3 rfl) ?_
  refine k_iastS hC hK hP hD hS 0 0 rfl (by decide +kernel) (by decide) (by decide +kernel) dJ7_fill_53178_13 (fun H locs hP hD hS => ?_)
  refine lv_iinc (v := 1) (lv' := [(2, .int 1), (3, .int 2), (0, .ref a0), (1, .int 16)]) hx hb dJ7_fill_53178_14 hl (k := 1) rfl (by decide +kernel) (by decide) rfl (fun ls hl => ?_)
  refine lv_goto (tgt := 5) hx hb dJ7_fill_53178_17 (by decide) ?_
  refine lv_iload_n hx hb dJ7_fill_53178_5 rfl (lv_at hl 0 rfl) ?_
  refine lv_iload_n hx hb dJ7_fill_53178_6 rfl (lv_at hl 1 rfl) ?_
  refine lv_icmp_ge (tgt := 20) hx hb dJ7_fill_53178_7 (by decide) (fun c_ => absurd c_ (by decide +kernel)) (fun _ => ?_)
  refine lv_aload_n hx hb dJ7_fill_53178_10 rfl (lv_at hl 2 rfl) ?_
  refine lv_iload_n hx hb dJ7_fill_53178_11 rfl (lv_at hl 0 rfl) ?_
  refine lv_iload_n hx hb dJ7_fill_53178_12 rfl (lv_at hl 3 rfl) ?_
  refine k_iastS hC hK hP hD hS 0 1 rfl (by decide +kernel) (by decide) (by decide +kernel) dJ7_fill_53178_13 (fun H locs hP hD hS => ?_)
  refine lv_iinc (v := 2) (lv' := [(2, .int 2), (3, .int 2), (0, .ref a0), (1, .int 16)]) hx hb dJ7_fill_53178_14 hl (k := 0) rfl (by decide +kernel) (by decide) rfl (fun ls hl => ?_)
  refine lv_goto (tgt := 5) hx hb dJ7_fill_53178_17 (by decide) ?_
  refine lv_iload_n hx hb dJ7_fill_53178_5 rfl (lv_at hl 0 rfl) ?_
  refine lv_iload_n hx hb dJ7_fill_53178_6 rfl (lv_at hl 1 rfl) ?_
  refine lv_icmp_ge (tgt := 20) hx hb dJ7_fill_53178_7 (by decide) (fun _ => ?_) (fun c_ => absurd (by decide +kernel) c_)
  exact k_vret hC hr hlk hK hP hD hS () [0] rfl (by decide) trivial (Nat.le_of_ble_eq_true rfl) (Nat.le_of_ble_eq_true rfl) dJ7_fill_53178_20
set_option maxHeartbeats 4000000 in
set_option maxRecDepth 100000 in
theorem c22_X7_makeEmpty (l : Launch) (G : va_G) (cI cJ cB cZ : ClassId) (a0 a1 a2 a3 a4 a5 a6 a7 a8 a9 a10 a11 a12 a13 a14 a15 a16 a17 a18 a19 a20 a21 a22 : Nat) : Con l G (TY cI cJ cB cZ) yX7_makeEmpty cX7_makeEmpty 1 none ({ frames := 1, cells := 0, slots := 0, locals := 23 } : Room) [.ref a0] [(a0, .inr (7, [.int 100, .int 100, .int 0, .ref a1, .ref a2, .int 0, .ref a3, .ref a4, .ref a5, .ref a6, .ref a7, .ref a8, .ref a9, .ref a10, .ref a11])), (a1, .inl (cI, 2, .inl (upd (upd (fun _ => 0) 0 16) 1 16))), (a2, .inl (cI, 2, .inl (upd (upd (fun _ => 0) 0 16) 1 16))), (a10, .inr (8, [.ref a12, .ref a13, .ref a14, .ref a15, .ref a16, .ref a17, .ref a18, .int 0])), (a11, .inr (3, [.ref a19, .ref a20, .ref a21, .ref a22, .int 0]))] (QV G (TY cI cJ cB cZ) (fun u : Unit => True) (fun u : Unit => [(a0, .inr (7, [.int 100, .int 100, .int 0, .ref a1, .ref a2, .int 0, .ref a3, .ref a4, .ref a5, .ref a6, .ref a7, .ref a8, .ref a9, .ref a10, .ref a11])), (a1, .inl (cI, 2, .inl (upd (upd (fun _ => 0) 0 16) 1 16))), (a2, .inl (cI, 2, .inl (upd (upd (fun _ => 0) 0 16) 1 16))), (a10, .inr (8, [.ref a12, .ref a13, .ref a14, .ref a15, .ref a16, .ref a17, .ref a18, .int 0])), (a11, .inr (3, [.ref a19, .ref a20, .ref a21, .ref a22, .int 0]))])) := by
  refine k_met (by decide) (Nat.le_of_ble_eq_true rfl) ?_
  intro p e s m below meth c A ls hC hr hlk hnm hN hK hA hP hD hS hl
  have hl : lv_has ls 1 [(0, .ref a0)] := hl
  obtain ⟨hx, hb, hml, hown, hts⟩ := id hC
  refine lv_aload_n hx hb dX7_makeEmpty_0 rfl (lv_at hl 0 rfl) ?_
  refine lv_bipush (v := 100) hx hb dX7_makeEmpty_1 (by decide) ?_
  refine k_put hC hK hP hD hS iX7 tyX7_ok nmX7 0 0 wf_X7_59 rfl (by decide) rfl rfl rfl rfl (Nat.le_of_ble_eq_true rfl) dX7_makeEmpty_3 (fun H locs hP hD hS => ?_)
  have hP : va_P G cl [(a0, .inr (7, [.int 100, .int 100, .int 0, .ref a1, .ref a2, .int 0, .ref a3, .ref a4, .ref a5, .ref a6, .ref a7, .ref a8, .ref a9, .ref a10, .ref a11])), (a1, .inl (cI, 2, .inl (upd (upd (fun _ => 0) 0 16) 1 16))), (a2, .inl (cI, 2, .inl (upd (upd (fun _ => 0) 0 16) 1 16))), (a10, .inr (8, [.ref a12, .ref a13, .ref a14, .ref a15, .ref a16, .ref a17, .ref a18, .int 0])), (a11, .inr (3, [.ref a19, .ref a20, .ref a21, .ref a22, .int 0]))] H := hP
  have hD : va_D A [(a0, .inr (7, [.int 100, .int 100, .int 0, .ref a1, .ref a2, .int 0, .ref a3, .ref a4, .ref a5, .ref a6, .ref a7, .ref a8, .ref a9, .ref a10, .ref a11])), (a1, .inl (cI, 2, .inl (upd (upd (fun _ => 0) 0 16) 1 16))), (a2, .inl (cI, 2, .inl (upd (upd (fun _ => 0) 0 16) 1 16))), (a10, .inr (8, [.ref a12, .ref a13, .ref a14, .ref a15, .ref a16, .ref a17, .ref a18, .int 0])), (a11, .inr (3, [.ref a19, .ref a20, .ref a21, .ref a22, .int 0]))] := hD
  refine lv_aload_n hx hb dX7_makeEmpty_6 rfl (lv_at hl 0 rfl) ?_
  refine lv_bipush (v := 100) hx hb dX7_makeEmpty_7 (by decide) ?_
  refine k_put hC hK hP hD hS iX7 tyX7_ok nmX7 0 1 wf_X7_63 rfl (by decide) rfl rfl rfl rfl (Nat.le_of_ble_eq_true rfl) dX7_makeEmpty_9 (fun H locs hP hD hS => ?_)
  have hP : va_P G cl [(a0, .inr (7, [.int 100, .int 100, .int 0, .ref a1, .ref a2, .int 0, .ref a3, .ref a4, .ref a5, .ref a6, .ref a7, .ref a8, .ref a9, .ref a10, .ref a11])), (a1, .inl (cI, 2, .inl (upd (upd (fun _ => 0) 0 16) 1 16))), (a2, .inl (cI, 2, .inl (upd (upd (fun _ => 0) 0 16) 1 16))), (a10, .inr (8, [.ref a12, .ref a13, .ref a14, .ref a15, .ref a16, .ref a17, .ref a18, .int 0])), (a11, .inr (3, [.ref a19, .ref a20, .ref a21, .ref a22, .int 0]))] H := hP
  have hD : va_D A [(a0, .inr (7, [.int 100, .int 100, .int 0, .ref a1, .ref a2, .int 0, .ref a3, .ref a4, .ref a5, .ref a6, .ref a7, .ref a8, .ref a9, .ref a10, .ref a11])), (a1, .inl (cI, 2, .inl (upd (upd (fun _ => 0) 0 16) 1 16))), (a2, .inl (cI, 2, .inl (upd (upd (fun _ => 0) 0 16) 1 16))), (a10, .inr (8, [.ref a12, .ref a13, .ref a14, .ref a15, .ref a16, .ref a17, .ref a18, .int 0])), (a11, .inr (3, [.ref a19, .ref a20, .ref a21, .ref a22, .int 0]))] := hD
  refine lv_aload_n hx hb dX7_makeEmpty_12 rfl (lv_at hl 0 rfl) ?_
  refine lv_iconst (v := 0) hx hb dX7_makeEmpty_13 (by decide) ?_
  refine k_put hC hK hP hD hS iX7 tyX7_ok nmX7 0 2 wf_X7_66 rfl (by decide) rfl rfl rfl rfl (Nat.le_of_ble_eq_true rfl) dX7_makeEmpty_14 (fun H locs hP hD hS => ?_)
  have hP : va_P G cl [(a0, .inr (7, [.int 100, .int 100, .int 0, .ref a1, .ref a2, .int 0, .ref a3, .ref a4, .ref a5, .ref a6, .ref a7, .ref a8, .ref a9, .ref a10, .ref a11])), (a1, .inl (cI, 2, .inl (upd (upd (fun _ => 0) 0 16) 1 16))), (a2, .inl (cI, 2, .inl (upd (upd (fun _ => 0) 0 16) 1 16))), (a10, .inr (8, [.ref a12, .ref a13, .ref a14, .ref a15, .ref a16, .ref a17, .ref a18, .int 0])), (a11, .inr (3, [.ref a19, .ref a20, .ref a21, .ref a22, .int 0]))] H := hP
  have hD : va_D A [(a0, .inr (7, [.int 100, .int 100, .int 0, .ref a1, .ref a2, .int 0, .ref a3, .ref a4, .ref a5, .ref a6, .ref a7, .ref a8, .ref a9, .ref a10, .ref a11])), (a1, .inl (cI, 2, .inl (upd (upd (fun _ => 0) 0 16) 1 16))), (a2, .inl (cI, 2, .inl (upd (upd (fun _ => 0) 0 16) 1 16))), (a10, .inr (8, [.ref a12, .ref a13, .ref a14, .ref a15, .ref a16, .ref a17, .ref a18, .int 0])), (a11, .inr (3, [.ref a19, .ref a20, .ref a21, .ref a22, .int 0]))] := hD
  refine lv_aload_n hx hb dX7_makeEmpty_17 rfl (lv_at hl 0 rfl) ?_
  refine k_get hC hK hP iX7 0 3 wf_X7_9 rfl (by decide) rfl rfl dX7_makeEmpty_18 ?_
  refine lv_bipush (v := 16) hx hb dX7_makeEmpty_21 (by decide) ?_
  refine k_cv (wr := [(a0, .inr (7, [.int 100, .int 100, .int 0, .ref a1, .ref a2, .int 0, .ref a3, .ref a4, .ref a5, .ref a6, .ref a7, .ref a8, .ref a9, .ref a10, .ref a11])), (a2, .inl (cI, 2, .inl (upd (upd (fun _ => 0) 0 16) 1 16))), (a10, .inr (8, [.ref a12, .ref a13, .ref a14, .ref a15, .ref a16, .ref a17, .ref a18, .int 0])), (a11, .inr (3, [.ref a19, .ref a20, .ref a21, .ref a22, .int 0]))]) (k_rS hC hN hK hP hD (c21_J7_fill_53178 l G cI cJ cB cZ a1) [1] rfl (by decide) mi_J7_fill_53178 st_J7_fill_53178 wm_X7_69 hl.1 rfl rfl (Nat.le_of_ble_eq_true rfl) ⟨(Nat.le_of_ble_eq_true rfl), (Nat.le_of_ble_eq_true rfl)⟩ dX7_makeEmpty_23 ⟨(Nat.le_of_ble_eq_true rfl), (Nat.le_of_ble_eq_true rfl)⟩) hP hD hS hA [1] [0, 2, 3, 4] rfl rfl (by decide) (by decide) (fun u1 H locs hp hP hD hS => ?_)
  have hP : va_P G cl [(a0, .inr (7, [.int 100, .int 100, .int 0, .ref a1, .ref a2, .int 0, .ref a3, .ref a4, .ref a5, .ref a6, .ref a7, .ref a8, .ref a9, .ref a10, .ref a11])), (a2, .inl (cI, 2, .inl (upd (upd (fun _ => 0) 0 16) 1 16))), (a10, .inr (8, [.ref a12, .ref a13, .ref a14, .ref a15, .ref a16, .ref a17, .ref a18, .int 0])), (a11, .inr (3, [.ref a19, .ref a20, .ref a21, .ref a22, .int 0])), (a1, .inl (cI, 2, .inl (upd (upd (fun _ => 0) 0 16) 1 16)))] H := hP
  have hD : va_D A [(a0, .inr (7, [.int 100, .int 100, .int 0, .ref a1, .ref a2, .int 0, .ref a3, .ref a4, .ref a5, .ref a6, .ref a7, .ref a8, .ref a9, .ref a10, .ref a11])), (a2, .inl (cI, 2, .inl (upd (upd (fun _ => 0) 0 16) 1 16))), (a10, .inr (8, [.ref a12, .ref a13, .ref a14, .ref a15, .ref a16, .ref a17, .ref a18, .int 0])), (a11, .inr (3, [.ref a19, .ref a20, .ref a21, .ref a22, .int 0])), (a1, .inl (cI, 2, .inl (upd (upd (fun _ => 0) 0 16) 1 16)))] := hD
  refine lv_aload_n hx hb dX7_makeEmpty_26 rfl (lv_at hl 0 rfl) ?_
  refine k_get hC hK hP iX7 0 4 wf_X7_15 rfl (by decide) rfl rfl dX7_makeEmpty_27 ?_
  refine lv_bipush (v := 16) hx hb dX7_makeEmpty_30 (by decide) ?_
  refine k_cv (wr := [(a0, .inr (7, [.int 100, .int 100, .int 0, .ref a1, .ref a2, .int 0, .ref a3, .ref a4, .ref a5, .ref a6, .ref a7, .ref a8, .ref a9, .ref a10, .ref a11])), (a10, .inr (8, [.ref a12, .ref a13, .ref a14, .ref a15, .ref a16, .ref a17, .ref a18, .int 0])), (a11, .inr (3, [.ref a19, .ref a20, .ref a21, .ref a22, .int 0])), (a1, .inl (cI, 2, .inl (upd (upd (fun _ => 0) 0 16) 1 16)))]) (k_rS hC hN hK hP hD (c21_J7_fill_53178 l G cI cJ cB cZ a2) [1] rfl (by decide) mi_J7_fill_53178 st_J7_fill_53178 wm_X7_69 hl.1 rfl rfl (Nat.le_of_ble_eq_true rfl) ⟨(Nat.le_of_ble_eq_true rfl), (Nat.le_of_ble_eq_true rfl)⟩ dX7_makeEmpty_32 ⟨(Nat.le_of_ble_eq_true rfl), (Nat.le_of_ble_eq_true rfl)⟩) hP hD hS hA [1] [0, 2, 3, 4] rfl rfl (by decide) (by decide) (fun u2 H locs hp hP hD hS => ?_)
  have hP : va_P G cl [(a0, .inr (7, [.int 100, .int 100, .int 0, .ref a1, .ref a2, .int 0, .ref a3, .ref a4, .ref a5, .ref a6, .ref a7, .ref a8, .ref a9, .ref a10, .ref a11])), (a10, .inr (8, [.ref a12, .ref a13, .ref a14, .ref a15, .ref a16, .ref a17, .ref a18, .int 0])), (a11, .inr (3, [.ref a19, .ref a20, .ref a21, .ref a22, .int 0])), (a1, .inl (cI, 2, .inl (upd (upd (fun _ => 0) 0 16) 1 16))), (a2, .inl (cI, 2, .inl (upd (upd (fun _ => 0) 0 16) 1 16)))] H := hP
  have hD : va_D A [(a0, .inr (7, [.int 100, .int 100, .int 0, .ref a1, .ref a2, .int 0, .ref a3, .ref a4, .ref a5, .ref a6, .ref a7, .ref a8, .ref a9, .ref a10, .ref a11])), (a10, .inr (8, [.ref a12, .ref a13, .ref a14, .ref a15, .ref a16, .ref a17, .ref a18, .int 0])), (a11, .inr (3, [.ref a19, .ref a20, .ref a21, .ref a22, .int 0])), (a1, .inl (cI, 2, .inl (upd (upd (fun _ => 0) 0 16) 1 16))), (a2, .inl (cI, 2, .inl (upd (upd (fun _ => 0) 0 16) 1 16)))] := hD
  refine lv_aload_n hx hb dX7_makeEmpty_35 rfl (lv_at hl 0 rfl) ?_
  refine lv_iconst (v := 0) hx hb dX7_makeEmpty_36 (by decide) ?_
  refine k_put hC hK hP hD hS iX7 tyX7_ok nmX7 0 5 wf_X7_75 rfl (by decide) rfl rfl rfl rfl (Nat.le_of_ble_eq_true rfl) dX7_makeEmpty_37 (fun H locs hP hD hS => ?_)
  have hP : va_P G cl [(a0, .inr (7, [.int 100, .int 100, .int 0, .ref a1, .ref a2, .int 0, .ref a3, .ref a4, .ref a5, .ref a6, .ref a7, .ref a8, .ref a9, .ref a10, .ref a11])), (a10, .inr (8, [.ref a12, .ref a13, .ref a14, .ref a15, .ref a16, .ref a17, .ref a18, .int 0])), (a11, .inr (3, [.ref a19, .ref a20, .ref a21, .ref a22, .int 0])), (a1, .inl (cI, 2, .inl (upd (upd (fun _ => 0) 0 16) 1 16))), (a2, .inl (cI, 2, .inl (upd (upd (fun _ => 0) 0 16) 1 16)))] H := hP
  have hD : va_D A [(a0, .inr (7, [.int 100, .int 100, .int 0, .ref a1, .ref a2, .int 0, .ref a3, .ref a4, .ref a5, .ref a6, .ref a7, .ref a8, .ref a9, .ref a10, .ref a11])), (a10, .inr (8, [.ref a12, .ref a13, .ref a14, .ref a15, .ref a16, .ref a17, .ref a18, .int 0])), (a11, .inr (3, [.ref a19, .ref a20, .ref a21, .ref a22, .int 0])), (a1, .inl (cI, 2, .inl (upd (upd (fun _ => 0) 0 16) 1 16))), (a2, .inl (cI, 2, .inl (upd (upd (fun _ => 0) 0 16) 1 16)))] := hD
  refine lv_aload_n hx hb dX7_makeEmpty_40 rfl (lv_at hl 0 rfl) ?_
  refine k_get hC hK hP iX7 0 13 wf_X7_45 rfl (by decide) rfl rfl dX7_makeEmpty_41 ?_
  refine lv_iconst (v := 0) hx hb dX7_makeEmpty_44 (by decide) ?_
  refine k_putN hC hN hK hP hD hS iX8 tyX8_ok nmX8 1 7 wf_X7_78 rfl (by decide) rfl rfl rfl rfl (Nat.le_of_ble_eq_true rfl) dX7_makeEmpty_45 (fun H locs hP hD hS => ?_)
  have hP : va_P G cl [(a0, .inr (7, [.int 100, .int 100, .int 0, .ref a1, .ref a2, .int 0, .ref a3, .ref a4, .ref a5, .ref a6, .ref a7, .ref a8, .ref a9, .ref a10, .ref a11])), (a10, .inr (8, [.ref a12, .ref a13, .ref a14, .ref a15, .ref a16, .ref a17, .ref a18, .int 0])), (a11, .inr (3, [.ref a19, .ref a20, .ref a21, .ref a22, .int 0])), (a1, .inl (cI, 2, .inl (upd (upd (fun _ => 0) 0 16) 1 16))), (a2, .inl (cI, 2, .inl (upd (upd (fun _ => 0) 0 16) 1 16)))] H := hP
  have hD : va_D A [(a0, .inr (7, [.int 100, .int 100, .int 0, .ref a1, .ref a2, .int 0, .ref a3, .ref a4, .ref a5, .ref a6, .ref a7, .ref a8, .ref a9, .ref a10, .ref a11])), (a10, .inr (8, [.ref a12, .ref a13, .ref a14, .ref a15, .ref a16, .ref a17, .ref a18, .int 0])), (a11, .inr (3, [.ref a19, .ref a20, .ref a21, .ref a22, .int 0])), (a1, .inl (cI, 2, .inl (upd (upd (fun _ => 0) 0 16) 1 16))), (a2, .inl (cI, 2, .inl (upd (upd (fun _ => 0) 0 16) 1 16)))] := hD
  refine lv_aload_n hx hb dX7_makeEmpty_48 rfl (lv_at hl 0 rfl) ?_
  refine k_get hC hK hP iX7 0 14 wf_X7_52 rfl (by decide) rfl rfl dX7_makeEmpty_49 ?_
  refine lv_iconst (v := 0) hx hb dX7_makeEmpty_52 (by decide) ?_
  refine k_putN hC hN hK hP hD hS iX3 tyX3_ok nmX3 2 4 wf_X7_81 rfl (by decide) rfl rfl rfl rfl (Nat.le_of_ble_eq_true rfl) dX7_makeEmpty_53 (fun H locs hP hD hS => ?_)
  have hP : va_P G cl [(a0, .inr (7, [.int 100, .int 100, .int 0, .ref a1, .ref a2, .int 0, .ref a3, .ref a4, .ref a5, .ref a6, .ref a7, .ref a8, .ref a9, .ref a10, .ref a11])), (a10, .inr (8, [.ref a12, .ref a13, .ref a14, .ref a15, .ref a16, .ref a17, .ref a18, .int 0])), (a11, .inr (3, [.ref a19, .ref a20, .ref a21, .ref a22, .int 0])), (a1, .inl (cI, 2, .inl (upd (upd (fun _ => 0) 0 16) 1 16))), (a2, .inl (cI, 2, .inl (upd (upd (fun _ => 0) 0 16) 1 16)))] H := hP
  have hD : va_D A [(a0, .inr (7, [.int 100, .int 100, .int 0, .ref a1, .ref a2, .int 0, .ref a3, .ref a4, .ref a5, .ref a6, .ref a7, .ref a8, .ref a9, .ref a10, .ref a11])), (a10, .inr (8, [.ref a12, .ref a13, .ref a14, .ref a15, .ref a16, .ref a17, .ref a18, .int 0])), (a11, .inr (3, [.ref a19, .ref a20, .ref a21, .ref a22, .int 0])), (a1, .inl (cI, 2, .inl (upd (upd (fun _ => 0) 0 16) 1 16))), (a2, .inl (cI, 2, .inl (upd (upd (fun _ => 0) 0 16) 1 16)))] := hD
  exact k_vret hC hr hlk hK hP hD hS () [0, 3, 4, 1, 2] rfl (by decide) trivial (Nat.le_of_ble_eq_true rfl) (Nat.le_of_ble_eq_true rfl) dX7_makeEmpty_56
theorem dX5_advance_0 : decode cX5_advance 0 = .ok (.aload_n 0, 1) := by decide +kernel
theorem dX5_advance_1 : decode cX5_advance 1 = .ok (.getfield 19, 3) := by decide +kernel
theorem dX5_advance_4 : decode cX5_advance 4 = .ok (.aload_n 0, 1) := by decide +kernel
theorem dX5_advance_5 : decode cX5_advance 5 = .ok (.getfield 15, 3) := by decide +kernel
theorem dX5_advance_8 : decode cX5_advance 8 = .ok (.if_icmp .ge 31, 3) := by decide +kernel
theorem dX5_advance_39 : decode cX5_advance 39 = .ok (.aload_n 0, 1) := by decide +kernel
theorem dX5_advance_40 : decode cX5_advance 40 = .ok (.aload_n 0, 1) := by decide +kernel
theorem dX5_advance_41 : decode cX5_advance 41 = .ok (.getfield 19, 3) := by decide +kernel
theorem dX5_advance_44 : decode cX5_advance 44 = .ok (.putfield 22, 3) := by decide +kernel
theorem dX5_advance_47 : decode cX5_advance 47 = .ok (.aload_n 0, 1) := by decide +kernel
theorem dX5_advance_48 : decode cX5_advance 48 = .ok (.getfield 19, 3) := by decide +kernel
theorem dX5_advance_51 : decode cX5_advance 51 = .ok (.aload_n 0, 1) := by decide +kernel
theorem dX5_advance_52 : decode cX5_advance 52 = .ok (.getfield 15, 3) := by decide +kernel
theorem dX5_advance_55 : decode cX5_advance 55 = .ok (.if_icmp .lt 11, 3) := by decide +kernel
theorem dX5_advance_58 : decode cX5_advance 58 = .ok (.aload_n 0, 1) := by decide +kernel
theorem dX5_advance_59 : decode cX5_advance 59 = .ok (.iconst 0, 1) := by decide +kernel
theorem dX5_advance_60 : decode cX5_advance 60 = .ok (.putfield 25, 3) := by decide +kernel
theorem dX5_advance_63 : decode cX5_advance 63 = .ok (.goto 80, 3) := by decide +kernel
theorem dX5_advance_143 : decode cX5_advance 143 = .ok (.return_, 1) := by decide +kernel
set_option maxHeartbeats 4000000 in
set_option maxRecDepth 100000 in
theorem c23_X5_advance (l : Launch) (G : va_G) (cI cJ cB cZ : ClassId) (a0 a1 : Nat) : Con l G (TY cI cJ cB cZ) yX5_advance cX5_advance 1 none ({ frames := 0, cells := 0, slots := 0, locals := 0 } : Room) [.ref a0] [(a0, .inr (5, [.ref a1, .int 0, .int 0, .int 0, .int 0, .long 0, .int 0]))] (QV G (TY cI cJ cB cZ) (fun u : Unit => True) (fun u : Unit => [(a0, .inr (5, [.ref a1, .int 0, .int 0, .int 0, .int 0, .long 0, .int 0]))])) := by
  refine k_met (by decide) (Nat.le_of_ble_eq_true rfl) ?_
  intro p e s m below meth c A ls hC hr hlk hnm hN hK hA hP hD hS hl
  have hl : lv_has ls 1 [(0, .ref a0)] := hl
  obtain ⟨hx, hb, hml, hown, hts⟩ := id hC
  refine lv_aload_n hx hb dX5_advance_0 rfl (lv_at hl 0 rfl) ?_
  refine k_get hC hK hP iX5 0 2 wf_X5_19 rfl (by decide) rfl rfl dX5_advance_1 ?_
  refine lv_aload_n hx hb dX5_advance_4 rfl (lv_at hl 0 rfl) ?_
  refine k_get hC hK hP iX5 0 1 wf_X5_15 rfl (by decide) rfl rfl dX5_advance_5 ?_
  refine lv_icmp_ge (tgt := 39) hx hb dX5_advance_8 (by decide) (fun _ => ?_) (fun c_ => absurd (by decide +kernel) c_)
  refine lv_aload_n hx hb dX5_advance_39 rfl (lv_at hl 0 rfl) ?_
  refine lv_aload_n hx hb dX5_advance_40 rfl (lv_at hl 0 rfl) ?_
  refine k_get hC hK hP iX5 0 2 wf_X5_19 rfl (by decide) rfl rfl dX5_advance_41 ?_
  refine k_put hC hK hP hD hS iX5 tyX5_ok nmX5 0 3 wf_X5_22 rfl (by decide) rfl rfl rfl rfl (Nat.le_of_ble_eq_true rfl) dX5_advance_44 (fun H locs hP hD hS => ?_)
  have hP : va_P G cl [(a0, .inr (5, [.ref a1, .int 0, .int 0, .int 0, .int 0, .long 0, .int 0]))] H := hP
  have hD : va_D A [(a0, .inr (5, [.ref a1, .int 0, .int 0, .int 0, .int 0, .long 0, .int 0]))] := hD
  refine lv_aload_n hx hb dX5_advance_47 rfl (lv_at hl 0 rfl) ?_
  refine k_get hC hK hP iX5 0 2 wf_X5_19 rfl (by decide) rfl rfl dX5_advance_48 ?_
  refine lv_aload_n hx hb dX5_advance_51 rfl (lv_at hl 0 rfl) ?_
  refine k_get hC hK hP iX5 0 1 wf_X5_15 rfl (by decide) rfl rfl dX5_advance_52 ?_
  refine lv_icmp_lt (tgt := 66) hx hb dX5_advance_55 (by decide) (fun c_ => absurd c_ (by decide +kernel)) (fun _ => ?_)
  refine lv_aload_n hx hb dX5_advance_58 rfl (lv_at hl 0 rfl) ?_
  refine lv_iconst (v := 0) hx hb dX5_advance_59 (by decide) ?_
  refine k_put hC hK hP hD hS iX5 tyX5_ok nmX5 0 4 wf_X5_25 rfl (by decide) rfl rfl rfl rfl (Nat.le_of_ble_eq_true rfl) dX5_advance_60 (fun H locs hP hD hS => ?_)
  have hP : va_P G cl [(a0, .inr (5, [.ref a1, .int 0, .int 0, .int 0, .int 0, .long 0, .int 0]))] H := hP
  have hD : va_D A [(a0, .inr (5, [.ref a1, .int 0, .int 0, .int 0, .int 0, .long 0, .int 0]))] := hD
  refine lv_goto (tgt := 143) hx hb dX5_advance_63 (by decide) ?_
  exact k_vret hC hr hlk hK hP hD hS () [0] rfl (by decide) trivial (Nat.le_of_ble_eq_true rfl) (Nat.le_of_ble_eq_true rfl) dX5_advance_143
theorem dX5_rewind_0 : decode cX5_rewind 0 = .ok (.aload_n 0, 1) := by decide +kernel
theorem dX5_rewind_1 : decode cX5_rewind 1 = .ok (.iconst 0, 1) := by decide +kernel
theorem dX5_rewind_2 : decode cX5_rewind 2 = .ok (.putfield 19, 3) := by decide +kernel
theorem dX5_rewind_5 : decode cX5_rewind 5 = .ok (.aload_n 0, 1) := by decide +kernel
theorem dX5_rewind_6 : decode cX5_rewind 6 = .ok (.invokevirtual 35, 3) := by decide +kernel
set_option maxRecDepth 100000 in
theorem wm_X5_35 : Cond.methodLink RX5 35 yX5_advance ∈ gw := gm (List.mem_of_getElem? (i := 592) (by decide +kernel)) rfl
set_option maxRecDepth 100000 in
theorem mi_X5_advance : MI yX5_advance cX5_advance 1 none 0 := ⟨gm (List.mem_of_getElem? (i := 595) rfl) rfl, gm (List.mem_of_getElem? (i := 119) (by decide +kernel)) rfl, by decide, by decide, by decide +kernel⟩
set_option maxRecDepth 100000 in
theorem in_X5_advance : Cond.instanceMethod yX5_advance ∈ gw := gm (List.mem_of_getElem? (i := 593) (by decide +kernel)) rfl
set_option maxRecDepth 100000 in
theorem se_X5_advance : Cond.selects yX5_advance.cls yX5_advance yX5_advance ∈ gw := gm (List.mem_of_getElem? (i := 594) (by decide +kernel)) rfl
theorem dX5_rewind_9 : decode cX5_rewind 9 = .ok (.return_, 1) := by decide +kernel
set_option maxHeartbeats 4000000 in
set_option maxRecDepth 100000 in
theorem c24_X5_rewind (l : Launch) (G : va_G) (cI cJ cB cZ : ClassId) (a0 a1 : Nat) : Con l G (TY cI cJ cB cZ) yX5_rewind cX5_rewind 1 none ({ frames := 1, cells := 0, slots := 0, locals := 20 } : Room) [.ref a0] [(a0, .inr (5, [.ref a1, .int 0, .int 0, .int 0, .int 0, .long 0, .int 0]))] (QV G (TY cI cJ cB cZ) (fun u : Unit => True) (fun u : Unit => [(a0, .inr (5, [.ref a1, .int 0, .int 0, .int 0, .int 0, .long 0, .int 0]))])) := by
  refine k_met (by decide) (Nat.le_of_ble_eq_true rfl) ?_
  intro p e s m below meth c A ls hC hr hlk hnm hN hK hA hP hD hS hl
  have hl : lv_has ls 1 [(0, .ref a0)] := hl
  obtain ⟨hx, hb, hml, hown, hts⟩ := id hC
  refine lv_aload_n hx hb dX5_rewind_0 rfl (lv_at hl 0 rfl) ?_
  refine lv_iconst (v := 0) hx hb dX5_rewind_1 (by decide) ?_
  refine k_put hC hK hP hD hS iX5 tyX5_ok nmX5 0 2 wf_X5_19 rfl (by decide) rfl rfl rfl rfl (Nat.le_of_ble_eq_true rfl) dX5_rewind_2 (fun H locs hP hD hS => ?_)
  have hP : va_P G cl [(a0, .inr (5, [.ref a1, .int 0, .int 0, .int 0, .int 0, .long 0, .int 0]))] H := hP
  have hD : va_D A [(a0, .inr (5, [.ref a1, .int 0, .int 0, .int 0, .int 0, .long 0, .int 0]))] := hD
  refine lv_aload_n hx hb dX5_rewind_5 rfl (lv_at hl 0 rfl) ?_
  refine k_cv (wr := []) (k_rV hC hN hK hP hD (c23_X5_advance l G cI cJ cB cZ a0 a1) [0] rfl (by decide) mi_X5_advance in_X5_advance se_X5_advance wm_X5_35 5 0 rfl rfl rfl hl.1 rfl rfl (Nat.le_of_ble_eq_true rfl) ⟨(Nat.le_of_ble_eq_true rfl), (Nat.le_of_ble_eq_true rfl)⟩ dX5_rewind_6 ⟨(Nat.le_of_ble_eq_true rfl), (Nat.le_of_ble_eq_true rfl)⟩) hP hD hS hA [0] [] rfl rfl (by decide) (by decide) (fun u1 H locs hp hP hD hS => ?_)
  have hP : va_P G cl [(a0, .inr (5, [.ref a1, .int 0, .int 0, .int 0, .int 0, .long 0, .int 0]))] H := hP
  have hD : va_D A [(a0, .inr (5, [.ref a1, .int 0, .int 0, .int 0, .int 0, .long 0, .int 0]))] := hD
  exact k_vret hC hr hlk hK hP hD hS () [0] rfl (by decide) trivial (Nat.le_of_ble_eq_true rfl) (Nat.le_of_ble_eq_true rfl) dX5_rewind_9
theorem dX2_read_0 : decode cX2_read 0 = .ok (.aload_n 0, 1) := by decide +kernel
theorem dX2_read_1 : decode cX2_read 1 = .ok (.iconst 0, 1) := by decide +kernel
theorem dX2_read_2 : decode cX2_read 2 = .ok (.putfield 29, 3) := by decide +kernel
theorem dX2_read_5 : decode cX2_read 5 = .ok (.aload_n 0, 1) := by decide +kernel
theorem dX2_read_6 : decode cX2_read 6 = .ok (.iconst 0, 1) := by decide +kernel
theorem dX2_read_7 : decode cX2_read 7 = .ok (.putfield 33, 3) := by decide +kernel
theorem dX2_read_10 : decode cX2_read 10 = .ok (.aload_n 0, 1) := by decide +kernel
theorem dX2_read_11 : decode cX2_read 11 = .ok (.iconst 0, 1) := by decide +kernel
theorem dX2_read_12 : decode cX2_read 12 = .ok (.putfield 36, 3) := by decide +kernel
theorem dX2_read_15 : decode cX2_read 15 = .ok (.aload_n 0, 1) := by decide +kernel
theorem dX2_read_16 : decode cX2_read 16 = .ok (.iconst 0, 1) := by decide +kernel
theorem dX2_read_17 : decode cX2_read 17 = .ok (.putfield 39, 3) := by decide +kernel
theorem dX2_read_20 : decode cX2_read 20 = .ok (.aload_n 0, 1) := by decide +kernel
theorem dX2_read_21 : decode cX2_read 21 = .ok (.iconst (-1), 1) := by decide +kernel
theorem dX2_read_22 : decode cX2_read 22 = .ok (.putfield 42, 3) := by decide +kernel
theorem dX2_read_25 : decode cX2_read 25 = .ok (.aload_n 0, 1) := by decide +kernel
theorem dX2_read_26 : decode cX2_read 26 = .ok (.getfield 21, 3) := by decide +kernel
theorem dX2_read_29 : decode cX2_read 29 = .ok (.invokevirtual 45, 3) := by decide +kernel
set_option maxRecDepth 100000 in
theorem wm_X2_45 : Cond.methodLinkNest RX2 45 yX7_makeEmpty "StoneTrust" ∈ nests := nm_ (List.mem_of_getElem? (i := 587) (by decide +kernel)) rfl
theorem dX2_read_32 : decode cX2_read 32 = .ok (.aload_n 0, 1) := by decide +kernel
theorem dX2_read_33 : decode cX2_read 33 = .ok (.getfield 12, 3) := by decide +kernel
theorem dX2_read_36 : decode cX2_read 36 = .ok (.invokevirtual 48, 3) := by decide +kernel
set_option maxRecDepth 100000 in
theorem wm_X2_48 : Cond.methodLink RX2 48 yX5_rewind ∈ gw := gm (List.mem_of_getElem? (i := 588) (by decide +kernel)) rfl
set_option maxRecDepth 100000 in
theorem mi_X5_rewind : MI yX5_rewind cX5_rewind 1 none 0 := ⟨gm (List.mem_of_getElem? (i := 591) rfl) rfl, gm (List.mem_of_getElem? (i := 119) (by decide +kernel)) rfl, by decide, by decide, by decide +kernel⟩
set_option maxRecDepth 100000 in
theorem in_X5_rewind : Cond.instanceMethod yX5_rewind ∈ gw := gm (List.mem_of_getElem? (i := 589) (by decide +kernel)) rfl
set_option maxRecDepth 100000 in
theorem se_X5_rewind : Cond.selects yX5_rewind.cls yX5_rewind yX5_rewind ∈ gw := gm (List.mem_of_getElem? (i := 590) (by decide +kernel)) rfl
theorem dX2_read_39 : decode cX2_read 39 = .ok (.iconst 0, 1) := by decide +kernel
theorem dX2_read_40 : decode cX2_read 40 = .ok (.istore_n 1, 1) := by decide +kernel
theorem dX2_read_41 : decode cX2_read 41 = .ok (.aload_n 0, 1) := by decide +kernel
theorem dX2_read_42 : decode cX2_read 42 = .ok (.getfield 12, 3) := by decide +kernel
theorem dX2_read_45 : decode cX2_read 45 = .ok (.getfield 51, 3) := by decide +kernel
set_option maxRecDepth 100000 in
theorem wf_X2_51 : Cond.fieldLinkNest RX2 51 "StoneTrust$Tape" "kind" "I" "StoneTrust" ∈ nests := nm_ (List.mem_of_getElem? (i := 316) (by decide +kernel)) rfl
theorem dX2_read_48 : decode cX2_read 48 = .ok (.ifCond .eq 25, 3) := by decide +kernel
theorem dX2_read_73 : decode cX2_read 73 = .ok (.iload_n 1, 1) := by decide +kernel
theorem dX2_read_74 : decode cX2_read 74 = .ok (.ireturn, 1) := by decide +kernel
set_option maxHeartbeats 4000000 in
set_option maxRecDepth 100000 in
theorem c25_X2_read (l : Launch) (G : va_G) (cI cJ cB cZ : ClassId) (a0 a1 a2 a3 a4 a5 a6 a7 a8 a9 a10 a11 a12 a13 a14 a15 a16 a17 a18 a19 a20 a21 a22 a23 a24 a25 : Nat) : Con l G (TY cI cJ cB cZ) yX2_read cX2_read 2 (some .int) ({ frames := 2, cells := 0, slots := 0, locals := 43 } : Room) [.ref a0] [(a0, .inr (2, [.ref a1, .ref a2, .int 0, .int 0, .int 0, .int 0, .int 0, .int (-1)])), (a2, .inr (7, [.int 100, .int 100, .int 0, .ref a3, .ref a4, .int 0, .ref a5, .ref a6, .ref a7, .ref a8, .ref a9, .ref a10, .ref a11, .ref a12, .ref a13])), (a3, .inl (cI, 2, .inl (upd (upd (fun _ => 0) 0 16) 1 16))), (a4, .inl (cI, 2, .inl (upd (upd (fun _ => 0) 0 16) 1 16))), (a12, .inr (8, [.ref a14, .ref a15, .ref a16, .ref a17, .ref a18, .ref a19, .ref a20, .int 0])), (a13, .inr (3, [.ref a21, .ref a22, .ref a23, .ref a24, .int 0])), (a1, .inr (5, [.ref a25, .int 0, .int 0, .int 0, .int 0, .long 0, .int 0]))] (QI G (TY cI cJ cB cZ) (fun (r : Int32) (u : Unit) => r = 0) (fun u : Unit => [(a0, .inr (2, [.ref a1, .ref a2, .int 0, .int 0, .int 0, .int 0, .int 0, .int (-1)])), (a2, .inr (7, [.int 100, .int 100, .int 0, .ref a3, .ref a4, .int 0, .ref a5, .ref a6, .ref a7, .ref a8, .ref a9, .ref a10, .ref a11, .ref a12, .ref a13])), (a3, .inl (cI, 2, .inl (upd (upd (fun _ => 0) 0 16) 1 16))), (a4, .inl (cI, 2, .inl (upd (upd (fun _ => 0) 0 16) 1 16))), (a12, .inr (8, [.ref a14, .ref a15, .ref a16, .ref a17, .ref a18, .ref a19, .ref a20, .int 0])), (a13, .inr (3, [.ref a21, .ref a22, .ref a23, .ref a24, .int 0])), (a1, .inr (5, [.ref a25, .int 0, .int 0, .int 0, .int 0, .long 0, .int 0]))])) := by
  refine k_met (by decide) (Nat.le_of_ble_eq_true rfl) ?_
  intro p e s m below meth c A ls hC hr hlk hnm hN hK hA hP hD hS hl
  have hl : lv_has ls 2 [(0, .ref a0)] := hl
  obtain ⟨hx, hb, hml, hown, hts⟩ := id hC
  refine lv_aload_n hx hb dX2_read_0 rfl (lv_at hl 0 rfl) ?_
  refine lv_iconst (v := 0) hx hb dX2_read_1 (by decide) ?_
  refine k_put hC hK hP hD hS iX2 tyX2_ok nmX2 0 3 wf_X2_29 rfl (by decide) rfl rfl rfl rfl (Nat.le_of_ble_eq_true rfl) dX2_read_2 (fun H locs hP hD hS => ?_)
  have hP : va_P G cl [(a0, .inr (2, [.ref a1, .ref a2, .int 0, .int 0, .int 0, .int 0, .int 0, .int (-1)])), (a2, .inr (7, [.int 100, .int 100, .int 0, .ref a3, .ref a4, .int 0, .ref a5, .ref a6, .ref a7, .ref a8, .ref a9, .ref a10, .ref a11, .ref a12, .ref a13])), (a3, .inl (cI, 2, .inl (upd (upd (fun _ => 0) 0 16) 1 16))), (a4, .inl (cI, 2, .inl (upd (upd (fun _ => 0) 0 16) 1 16))), (a12, .inr (8, [.ref a14, .ref a15, .ref a16, .ref a17, .ref a18, .ref a19, .ref a20, .int 0])), (a13, .inr (3, [.ref a21, .ref a22, .ref a23, .ref a24, .int 0])), (a1, .inr (5, [.ref a25, .int 0, .int 0, .int 0, .int 0, .long 0, .int 0]))] H := hP
  have hD : va_D A [(a0, .inr (2, [.ref a1, .ref a2, .int 0, .int 0, .int 0, .int 0, .int 0, .int (-1)])), (a2, .inr (7, [.int 100, .int 100, .int 0, .ref a3, .ref a4, .int 0, .ref a5, .ref a6, .ref a7, .ref a8, .ref a9, .ref a10, .ref a11, .ref a12, .ref a13])), (a3, .inl (cI, 2, .inl (upd (upd (fun _ => 0) 0 16) 1 16))), (a4, .inl (cI, 2, .inl (upd (upd (fun _ => 0) 0 16) 1 16))), (a12, .inr (8, [.ref a14, .ref a15, .ref a16, .ref a17, .ref a18, .ref a19, .ref a20, .int 0])), (a13, .inr (3, [.ref a21, .ref a22, .ref a23, .ref a24, .int 0])), (a1, .inr (5, [.ref a25, .int 0, .int 0, .int 0, .int 0, .long 0, .int 0]))] := hD
  refine lv_aload_n hx hb dX2_read_5 rfl (lv_at hl 0 rfl) ?_
  refine lv_iconst (v := 0) hx hb dX2_read_6 (by decide) ?_
  refine k_put hC hK hP hD hS iX2 tyX2_ok nmX2 0 4 wf_X2_33 rfl (by decide) rfl rfl rfl rfl (Nat.le_of_ble_eq_true rfl) dX2_read_7 (fun H locs hP hD hS => ?_)
  have hP : va_P G cl [(a0, .inr (2, [.ref a1, .ref a2, .int 0, .int 0, .int 0, .int 0, .int 0, .int (-1)])), (a2, .inr (7, [.int 100, .int 100, .int 0, .ref a3, .ref a4, .int 0, .ref a5, .ref a6, .ref a7, .ref a8, .ref a9, .ref a10, .ref a11, .ref a12, .ref a13])), (a3, .inl (cI, 2, .inl (upd (upd (fun _ => 0) 0 16) 1 16))), (a4, .inl (cI, 2, .inl (upd (upd (fun _ => 0) 0 16) 1 16))), (a12, .inr (8, [.ref a14, .ref a15, .ref a16, .ref a17, .ref a18, .ref a19, .ref a20, .int 0])), (a13, .inr (3, [.ref a21, .ref a22, .ref a23, .ref a24, .int 0])), (a1, .inr (5, [.ref a25, .int 0, .int 0, .int 0, .int 0, .long 0, .int 0]))] H := hP
  have hD : va_D A [(a0, .inr (2, [.ref a1, .ref a2, .int 0, .int 0, .int 0, .int 0, .int 0, .int (-1)])), (a2, .inr (7, [.int 100, .int 100, .int 0, .ref a3, .ref a4, .int 0, .ref a5, .ref a6, .ref a7, .ref a8, .ref a9, .ref a10, .ref a11, .ref a12, .ref a13])), (a3, .inl (cI, 2, .inl (upd (upd (fun _ => 0) 0 16) 1 16))), (a4, .inl (cI, 2, .inl (upd (upd (fun _ => 0) 0 16) 1 16))), (a12, .inr (8, [.ref a14, .ref a15, .ref a16, .ref a17, .ref a18, .ref a19, .ref a20, .int 0])), (a13, .inr (3, [.ref a21, .ref a22, .ref a23, .ref a24, .int 0])), (a1, .inr (5, [.ref a25, .int 0, .int 0, .int 0, .int 0, .long 0, .int 0]))] := hD
  refine lv_aload_n hx hb dX2_read_10 rfl (lv_at hl 0 rfl) ?_
  refine lv_iconst (v := 0) hx hb dX2_read_11 (by decide) ?_
  refine k_put hC hK hP hD hS iX2 tyX2_ok nmX2 0 5 wf_X2_36 rfl (by decide) rfl rfl rfl rfl (Nat.le_of_ble_eq_true rfl) dX2_read_12 (fun H locs hP hD hS => ?_)
  have hP : va_P G cl [(a0, .inr (2, [.ref a1, .ref a2, .int 0, .int 0, .int 0, .int 0, .int 0, .int (-1)])), (a2, .inr (7, [.int 100, .int 100, .int 0, .ref a3, .ref a4, .int 0, .ref a5, .ref a6, .ref a7, .ref a8, .ref a9, .ref a10, .ref a11, .ref a12, .ref a13])), (a3, .inl (cI, 2, .inl (upd (upd (fun _ => 0) 0 16) 1 16))), (a4, .inl (cI, 2, .inl (upd (upd (fun _ => 0) 0 16) 1 16))), (a12, .inr (8, [.ref a14, .ref a15, .ref a16, .ref a17, .ref a18, .ref a19, .ref a20, .int 0])), (a13, .inr (3, [.ref a21, .ref a22, .ref a23, .ref a24, .int 0])), (a1, .inr (5, [.ref a25, .int 0, .int 0, .int 0, .int 0, .long 0, .int 0]))] H := hP
  have hD : va_D A [(a0, .inr (2, [.ref a1, .ref a2, .int 0, .int 0, .int 0, .int 0, .int 0, .int (-1)])), (a2, .inr (7, [.int 100, .int 100, .int 0, .ref a3, .ref a4, .int 0, .ref a5, .ref a6, .ref a7, .ref a8, .ref a9, .ref a10, .ref a11, .ref a12, .ref a13])), (a3, .inl (cI, 2, .inl (upd (upd (fun _ => 0) 0 16) 1 16))), (a4, .inl (cI, 2, .inl (upd (upd (fun _ => 0) 0 16) 1 16))), (a12, .inr (8, [.ref a14, .ref a15, .ref a16, .ref a17, .ref a18, .ref a19, .ref a20, .int 0])), (a13, .inr (3, [.ref a21, .ref a22, .ref a23, .ref a24, .int 0])), (a1, .inr (5, [.ref a25, .int 0, .int 0, .int 0, .int 0, .long 0, .int 0]))] := hD
  refine lv_aload_n hx hb dX2_read_15 rfl (lv_at hl 0 rfl) ?_
  refine lv_iconst (v := 0) hx hb dX2_read_16 (by decide) ?_
  refine k_put hC hK hP hD hS iX2 tyX2_ok nmX2 0 6 wf_X2_39 rfl (by decide) rfl rfl rfl rfl (Nat.le_of_ble_eq_true rfl) dX2_read_17 (fun H locs hP hD hS => ?_)
  have hP : va_P G cl [(a0, .inr (2, [.ref a1, .ref a2, .int 0, .int 0, .int 0, .int 0, .int 0, .int (-1)])), (a2, .inr (7, [.int 100, .int 100, .int 0, .ref a3, .ref a4, .int 0, .ref a5, .ref a6, .ref a7, .ref a8, .ref a9, .ref a10, .ref a11, .ref a12, .ref a13])), (a3, .inl (cI, 2, .inl (upd (upd (fun _ => 0) 0 16) 1 16))), (a4, .inl (cI, 2, .inl (upd (upd (fun _ => 0) 0 16) 1 16))), (a12, .inr (8, [.ref a14, .ref a15, .ref a16, .ref a17, .ref a18, .ref a19, .ref a20, .int 0])), (a13, .inr (3, [.ref a21, .ref a22, .ref a23, .ref a24, .int 0])), (a1, .inr (5, [.ref a25, .int 0, .int 0, .int 0, .int 0, .long 0, .int 0]))] H := hP
  have hD : va_D A [(a0, .inr (2, [.ref a1, .ref a2, .int 0, .int 0, .int 0, .int 0, .int 0, .int (-1)])), (a2, .inr (7, [.int 100, .int 100, .int 0, .ref a3, .ref a4, .int 0, .ref a5, .ref a6, .ref a7, .ref a8, .ref a9, .ref a10, .ref a11, .ref a12, .ref a13])), (a3, .inl (cI, 2, .inl (upd (upd (fun _ => 0) 0 16) 1 16))), (a4, .inl (cI, 2, .inl (upd (upd (fun _ => 0) 0 16) 1 16))), (a12, .inr (8, [.ref a14, .ref a15, .ref a16, .ref a17, .ref a18, .ref a19, .ref a20, .int 0])), (a13, .inr (3, [.ref a21, .ref a22, .ref a23, .ref a24, .int 0])), (a1, .inr (5, [.ref a25, .int 0, .int 0, .int 0, .int 0, .long 0, .int 0]))] := hD
  refine lv_aload_n hx hb dX2_read_20 rfl (lv_at hl 0 rfl) ?_
  refine lv_iconst (v := (-1)) hx hb dX2_read_21 (by decide) ?_
  refine k_put hC hK hP hD hS iX2 tyX2_ok nmX2 0 7 wf_X2_42 rfl (by decide) rfl rfl rfl rfl (Nat.le_of_ble_eq_true rfl) dX2_read_22 (fun H locs hP hD hS => ?_)
  have hP : va_P G cl [(a0, .inr (2, [.ref a1, .ref a2, .int 0, .int 0, .int 0, .int 0, .int 0, .int (-1)])), (a2, .inr (7, [.int 100, .int 100, .int 0, .ref a3, .ref a4, .int 0, .ref a5, .ref a6, .ref a7, .ref a8, .ref a9, .ref a10, .ref a11, .ref a12, .ref a13])), (a3, .inl (cI, 2, .inl (upd (upd (fun _ => 0) 0 16) 1 16))), (a4, .inl (cI, 2, .inl (upd (upd (fun _ => 0) 0 16) 1 16))), (a12, .inr (8, [.ref a14, .ref a15, .ref a16, .ref a17, .ref a18, .ref a19, .ref a20, .int 0])), (a13, .inr (3, [.ref a21, .ref a22, .ref a23, .ref a24, .int 0])), (a1, .inr (5, [.ref a25, .int 0, .int 0, .int 0, .int 0, .long 0, .int 0]))] H := hP
  have hD : va_D A [(a0, .inr (2, [.ref a1, .ref a2, .int 0, .int 0, .int 0, .int 0, .int 0, .int (-1)])), (a2, .inr (7, [.int 100, .int 100, .int 0, .ref a3, .ref a4, .int 0, .ref a5, .ref a6, .ref a7, .ref a8, .ref a9, .ref a10, .ref a11, .ref a12, .ref a13])), (a3, .inl (cI, 2, .inl (upd (upd (fun _ => 0) 0 16) 1 16))), (a4, .inl (cI, 2, .inl (upd (upd (fun _ => 0) 0 16) 1 16))), (a12, .inr (8, [.ref a14, .ref a15, .ref a16, .ref a17, .ref a18, .ref a19, .ref a20, .int 0])), (a13, .inr (3, [.ref a21, .ref a22, .ref a23, .ref a24, .int 0])), (a1, .inr (5, [.ref a25, .int 0, .int 0, .int 0, .int 0, .long 0, .int 0]))] := hD
  refine lv_aload_n hx hb dX2_read_25 rfl (lv_at hl 0 rfl) ?_
  refine k_get hC hK hP iX2 0 1 wf_X2_21 rfl (by decide) rfl rfl dX2_read_26 ?_
  refine k_cv (wr := [(a0, .inr (2, [.ref a1, .ref a2, .int 0, .int 0, .int 0, .int 0, .int 0, .int (-1)])), (a1, .inr (5, [.ref a25, .int 0, .int 0, .int 0, .int 0, .long 0, .int 0]))]) (k_rVN hC hN hK hP hD (c22_X7_makeEmpty l G cI cJ cB cZ a2 a3 a4 a5 a6 a7 a8 a9 a10 a11 a12 a13 a14 a15 a16 a17 a18 a19 a20 a21 a22 a23 a24) [1, 2, 3, 4, 5] rfl (by decide) mi_X7_makeEmpty in_X7_makeEmpty se_X7_makeEmpty wm_X2_45 7 1 rfl rfl rfl hl.1 rfl rfl (Nat.le_of_ble_eq_true rfl) ⟨(Nat.le_of_ble_eq_true rfl), (Nat.le_of_ble_eq_true rfl)⟩ dX2_read_29 ⟨(Nat.le_of_ble_eq_true rfl), (Nat.le_of_ble_eq_true rfl)⟩) hP hD hS hA [1, 2, 3, 4, 5] [0, 6] rfl rfl (by decide) (by decide) (fun u1 H locs hp hP hD hS => ?_)
  have hP : va_P G cl [(a0, .inr (2, [.ref a1, .ref a2, .int 0, .int 0, .int 0, .int 0, .int 0, .int (-1)])), (a1, .inr (5, [.ref a25, .int 0, .int 0, .int 0, .int 0, .long 0, .int 0])), (a2, .inr (7, [.int 100, .int 100, .int 0, .ref a3, .ref a4, .int 0, .ref a5, .ref a6, .ref a7, .ref a8, .ref a9, .ref a10, .ref a11, .ref a12, .ref a13])), (a3, .inl (cI, 2, .inl (upd (upd (fun _ => 0) 0 16) 1 16))), (a4, .inl (cI, 2, .inl (upd (upd (fun _ => 0) 0 16) 1 16))), (a12, .inr (8, [.ref a14, .ref a15, .ref a16, .ref a17, .ref a18, .ref a19, .ref a20, .int 0])), (a13, .inr (3, [.ref a21, .ref a22, .ref a23, .ref a24, .int 0]))] H := hP
  have hD : va_D A [(a0, .inr (2, [.ref a1, .ref a2, .int 0, .int 0, .int 0, .int 0, .int 0, .int (-1)])), (a1, .inr (5, [.ref a25, .int 0, .int 0, .int 0, .int 0, .long 0, .int 0])), (a2, .inr (7, [.int 100, .int 100, .int 0, .ref a3, .ref a4, .int 0, .ref a5, .ref a6, .ref a7, .ref a8, .ref a9, .ref a10, .ref a11, .ref a12, .ref a13])), (a3, .inl (cI, 2, .inl (upd (upd (fun _ => 0) 0 16) 1 16))), (a4, .inl (cI, 2, .inl (upd (upd (fun _ => 0) 0 16) 1 16))), (a12, .inr (8, [.ref a14, .ref a15, .ref a16, .ref a17, .ref a18, .ref a19, .ref a20, .int 0])), (a13, .inr (3, [.ref a21, .ref a22, .ref a23, .ref a24, .int 0]))] := hD
  refine lv_aload_n hx hb dX2_read_32 rfl (lv_at hl 0 rfl) ?_
  refine k_get hC hK hP iX2 0 0 wf_X2_12 rfl (by decide) rfl rfl dX2_read_33 ?_
  refine k_cv (wr := [(a0, .inr (2, [.ref a1, .ref a2, .int 0, .int 0, .int 0, .int 0, .int 0, .int (-1)])), (a2, .inr (7, [.int 100, .int 100, .int 0, .ref a3, .ref a4, .int 0, .ref a5, .ref a6, .ref a7, .ref a8, .ref a9, .ref a10, .ref a11, .ref a12, .ref a13])), (a3, .inl (cI, 2, .inl (upd (upd (fun _ => 0) 0 16) 1 16))), (a4, .inl (cI, 2, .inl (upd (upd (fun _ => 0) 0 16) 1 16))), (a12, .inr (8, [.ref a14, .ref a15, .ref a16, .ref a17, .ref a18, .ref a19, .ref a20, .int 0])), (a13, .inr (3, [.ref a21, .ref a22, .ref a23, .ref a24, .int 0]))]) (k_rV hC hN hK hP hD (c24_X5_rewind l G cI cJ cB cZ a1 a25) [1] rfl (by decide) mi_X5_rewind in_X5_rewind se_X5_rewind wm_X2_48 5 1 rfl rfl rfl hl.1 rfl rfl (Nat.le_of_ble_eq_true rfl) ⟨(Nat.le_of_ble_eq_true rfl), (Nat.le_of_ble_eq_true rfl)⟩ dX2_read_36 ⟨(Nat.le_of_ble_eq_true rfl), (Nat.le_of_ble_eq_true rfl)⟩) hP hD hS hA [1] [0, 2, 3, 4, 5, 6] rfl rfl (by decide) (by decide) (fun u2 H locs hp hP hD hS => ?_)
  have hP : va_P G cl [(a0, .inr (2, [.ref a1, .ref a2, .int 0, .int 0, .int 0, .int 0, .int 0, .int (-1)])), (a2, .inr (7, [.int 100, .int 100, .int 0, .ref a3, .ref a4, .int 0, .ref a5, .ref a6, .ref a7, .ref a8, .ref a9, .ref a10, .ref a11, .ref a12, .ref a13])), (a3, .inl (cI, 2, .inl (upd (upd (fun _ => 0) 0 16) 1 16))), (a4, .inl (cI, 2, .inl (upd (upd (fun _ => 0) 0 16) 1 16))), (a12, .inr (8, [.ref a14, .ref a15, .ref a16, .ref a17, .ref a18, .ref a19, .ref a20, .int 0])), (a13, .inr (3, [.ref a21, .ref a22, .ref a23, .ref a24, .int 0])), (a1, .inr (5, [.ref a25, .int 0, .int 0, .int 0, .int 0, .long 0, .int 0]))] H := hP
  have hD : va_D A [(a0, .inr (2, [.ref a1, .ref a2, .int 0, .int 0, .int 0, .int 0, .int 0, .int (-1)])), (a2, .inr (7, [.int 100, .int 100, .int 0, .ref a3, .ref a4, .int 0, .ref a5, .ref a6, .ref a7, .ref a8, .ref a9, .ref a10, .ref a11, .ref a12, .ref a13])), (a3, .inl (cI, 2, .inl (upd (upd (fun _ => 0) 0 16) 1 16))), (a4, .inl (cI, 2, .inl (upd (upd (fun _ => 0) 0 16) 1 16))), (a12, .inr (8, [.ref a14, .ref a15, .ref a16, .ref a17, .ref a18, .ref a19, .ref a20, .int 0])), (a13, .inr (3, [.ref a21, .ref a22, .ref a23, .ref a24, .int 0])), (a1, .inr (5, [.ref a25, .int 0, .int 0, .int 0, .int 0, .long 0, .int 0]))] := hD
  refine lv_iconst (v := 0) hx hb dX2_read_39 (by decide) ?_
  refine lv_istore_n (lv' := [(1, .int 0), (0, .ref a0)]) hx hb dX2_read_40 rfl hl (by decide) rfl (fun ls hl => ?_)
  refine lv_aload_n hx hb dX2_read_41 rfl (lv_at hl 1 rfl) ?_
  refine k_get hC hK hP iX2 0 0 wf_X2_12 rfl (by decide) rfl rfl dX2_read_42 ?_
  refine k_getN hC hN hK hP iX5 6 4 wf_X2_51 rfl (by decide) rfl rfl dX2_read_45 ?_
  refine lv_if_eq (tgt := 73) hx hb dX2_read_48 (by decide) (fun _ => ?_) (fun c_ => absurd (by decide +kernel) c_)
  refine lv_iload_n hx hb dX2_read_73 rfl (lv_at hl 0 rfl) ?_
  exact k_iret hC hr hlk hK hP hD hS () [0, 1, 2, 3, 4, 5, 6] rfl (by decide) rfl (Nat.le_of_ble_eq_true rfl) (Nat.le_of_ble_eq_true rfl) dX2_read_74
theorem dX2_swapFor_0 : decode cX2_swapFor 0 = .ok (.aload_n 0, 1) := by decide +kernel
theorem dX2_swapFor_1 : decode cX2_swapFor 1 = .ok (.getfield 21, 3) := by decide +kernel
theorem dX2_swapFor_4 : decode cX2_swapFor 4 = .ok (.astore_n 2, 1) := by decide +kernel
theorem dX2_swapFor_5 : decode cX2_swapFor 5 = .ok (.aload_n 0, 1) := by decide +kernel
theorem dX2_swapFor_6 : decode cX2_swapFor 6 = .ok (.aload_n 1, 1) := by decide +kernel
theorem dX2_swapFor_7 : decode cX2_swapFor 7 = .ok (.putfield 21, 3) := by decide +kernel
theorem dX2_swapFor_10 : decode cX2_swapFor 10 = .ok (.aload_n 2, 1) := by decide +kernel
theorem dX2_swapFor_11 : decode cX2_swapFor 11 = .ok (.areturn, 1) := by decide +kernel
set_option maxHeartbeats 4000000 in
set_option maxRecDepth 100000 in
theorem c26_X2_swapFor (l : Launch) (G : va_G) (cI cJ cB cZ : ClassId) (a0 a1 a2 a3 : Nat) : Con l G (TY cI cJ cB cZ) yX2_swapFor cX2_swapFor 3 (some (.object "StoneTrust$Village")) ({ frames := 0, cells := 0, slots := 0, locals := 0 } : Room) [.ref a0, .ref a1] [(a0, .inr (2, [.ref a2, .ref a3, .int 0, .int 0, .int 0, .int 0, .int 0, .int (-1)]))] (QR G (TY cI cJ cB cZ) (fun u : Unit => True) (fun _ => a3) (fun u : Unit => [(a0, .inr (2, [.ref a2, .ref a1, .int 0, .int 0, .int 0, .int 0, .int 0, .int (-1)]))])) := by
  refine k_met (by decide) (Nat.le_of_ble_eq_true rfl) ?_
  intro p e s m below meth c A ls hC hr hlk hnm hN hK hA hP hD hS hl
  have hl : lv_has ls 3 [(0, .ref a0), (1, .ref a1)] := hl
  obtain ⟨hx, hb, hml, hown, hts⟩ := id hC
  refine lv_aload_n hx hb dX2_swapFor_0 rfl (lv_at hl 0 rfl) ?_
  refine k_get hC hK hP iX2 0 1 wf_X2_21 rfl (by decide) rfl rfl dX2_swapFor_1 ?_
  refine lv_astore_n (lv' := [(2, .ref a3), (0, .ref a0), (1, .ref a1)]) hx hb dX2_swapFor_4 rfl hl (by decide) rfl (fun ls hl => ?_)
  refine lv_aload_n hx hb dX2_swapFor_5 rfl (lv_at hl 1 rfl) ?_
  refine lv_aload_n hx hb dX2_swapFor_6 rfl (lv_at hl 2 rfl) ?_
  refine k_put hC hK hP hD hS iX2 tyX2_ok nmX2 0 1 wf_X2_21 rfl (by decide) rfl rfl rfl rfl (Nat.le_of_ble_eq_true rfl) dX2_swapFor_7 (fun H locs hP hD hS => ?_)
  have hP : va_P G cl [(a0, .inr (2, [.ref a2, .ref a1, .int 0, .int 0, .int 0, .int 0, .int 0, .int (-1)]))] H := hP
  have hD : va_D A [(a0, .inr (2, [.ref a2, .ref a1, .int 0, .int 0, .int 0, .int 0, .int 0, .int (-1)]))] := hD
  refine lv_aload_n hx hb dX2_swapFor_10 rfl (lv_at hl 0 rfl) ?_
  exact k_aret hC hr (Or.inl ⟨_, rfl⟩) hlk hK hP hD hS () [0] rfl (by decide) trivial (Nat.le_of_ble_eq_true rfl) (Nat.le_of_ble_eq_true rfl) dX2_swapFor_11
theorem dX0_forget_0 : decode cX0_forget 0 = .ok (.aload_n 0, 1) := by decide +kernel
theorem dX0_forget_1 : decode cX0_forget 1 = .ok (.iconst 0, 1) := by decide +kernel
theorem dX0_forget_2 : decode cX0_forget 2 = .ok (.putfield 19, 3) := by decide +kernel
theorem dX0_forget_5 : decode cX0_forget 5 = .ok (.aload_n 0, 1) := by decide +kernel
theorem dX0_forget_6 : decode cX0_forget 6 = .ok (.dup, 1) := by decide +kernel
theorem dX0_forget_7 : decode cX0_forget 7 = .ok (.getfield 27, 3) := by decide +kernel
theorem dX0_forget_10 : decode cX0_forget 10 = .ok (.iconst 1, 1) := by decide +kernel
theorem dX0_forget_11 : decode cX0_forget 11 = .ok (.iadd, 1) := by decide +kernel
theorem dX0_forget_12 : decode cX0_forget 12 = .ok (.putfield 27, 3) := by decide +kernel
theorem dX0_forget_15 : decode cX0_forget 15 = .ok (.return_, 1) := by decide +kernel
set_option maxHeartbeats 4000000 in
set_option maxRecDepth 100000 in
theorem c27_X0_forget (l : Launch) (G : va_G) (cI cJ cB cZ : ClassId) (a0 a1 : Nat) : Con l G (TY cI cJ cB cZ) yX0_forget cX0_forget 1 none ({ frames := 0, cells := 0, slots := 0, locals := 0 } : Room) [.ref a0] [(a0, .inr (0, [.ref a1, .int 0, .int 0, .long 0, .int 0, .int 0, .long 0]))] (QV G (TY cI cJ cB cZ) (fun u : Unit => True) (fun u : Unit => [(a0, .inr (0, [.ref a1, .int 0, .int 0, .long 0, .int 1, .int 0, .long 0]))])) := by
  refine k_met (by decide) (Nat.le_of_ble_eq_true rfl) ?_
  intro p e s m below meth c A ls hC hr hlk hnm hN hK hA hP hD hS hl
  have hl : lv_has ls 1 [(0, .ref a0)] := hl
  obtain ⟨hx, hb, hml, hown, hts⟩ := id hC
  refine lv_aload_n hx hb dX0_forget_0 rfl (lv_at hl 0 rfl) ?_
  refine lv_iconst (v := 0) hx hb dX0_forget_1 (by decide) ?_
  refine k_put hC hK hP hD hS iX0 tyX0_ok nmX0 0 2 wf_X0_19 rfl (by decide) rfl rfl rfl rfl (Nat.le_of_ble_eq_true rfl) dX0_forget_2 (fun H locs hP hD hS => ?_)
  have hP : va_P G cl [(a0, .inr (0, [.ref a1, .int 0, .int 0, .long 0, .int 0, .int 0, .long 0]))] H := hP
  have hD : va_D A [(a0, .inr (0, [.ref a1, .int 0, .int 0, .long 0, .int 0, .int 0, .long 0]))] := hD
  refine lv_aload_n hx hb dX0_forget_5 rfl (lv_at hl 0 rfl) ?_
  refine lv_dup hx hb dX0_forget_6 rfl ?_
  refine k_get hC hK hP iX0 0 4 wf_X0_27 rfl (by decide) rfl rfl dX0_forget_7 ?_
  refine lv_iconst (v := 1) hx hb dX0_forget_10 (by decide) ?_
  refine lv_iadd hx hb dX0_forget_11 ?_
  refine k_i 1 (by decide +kernel) ?_
  refine k_put hC hK hP hD hS iX0 tyX0_ok nmX0 0 4 wf_X0_27 rfl (by decide) rfl rfl rfl rfl (Nat.le_of_ble_eq_true rfl) dX0_forget_12 (fun H locs hP hD hS => ?_)
  have hP : va_P G cl [(a0, .inr (0, [.ref a1, .int 0, .int 0, .long 0, .int 1, .int 0, .long 0]))] H := hP
  have hD : va_D A [(a0, .inr (0, [.ref a1, .int 0, .int 0, .long 0, .int 1, .int 0, .long 0]))] := hD
  exact k_vret hC hr hlk hK hP hD hS () [0] rfl (by decide) trivial (Nat.le_of_ble_eq_true rfl) (Nat.le_of_ble_eq_true rfl) dX0_forget_15
theorem dX9_village_0 : decode cX9_village 0 = .ok (.aload_n 0, 1) := by decide +kernel
theorem dX9_village_1 : decode cX9_village 1 = .ok (.getfield 19, 3) := by decide +kernel
theorem dX9_village_4 : decode cX9_village 4 = .ok (.invokevirtual 77, 3) := by decide +kernel
set_option maxRecDepth 100000 in
theorem wm_X9_77 : Cond.methodLink RX9 77 yX2_read ∈ gw := gm (List.mem_of_getElem? (i := 583) (by decide +kernel)) rfl
set_option maxRecDepth 100000 in
theorem mi_X2_read : MI yX2_read cX2_read 2 (some .int) 0 := ⟨gm (List.mem_of_getElem? (i := 586) rfl) rfl, gm (List.mem_of_getElem? (i := 118) (by decide +kernel)) rfl, by decide, by decide, by decide +kernel⟩
set_option maxRecDepth 100000 in
theorem in_X2_read : Cond.instanceMethod yX2_read ∈ gw := gm (List.mem_of_getElem? (i := 584) (by decide +kernel)) rfl
set_option maxRecDepth 100000 in
theorem se_X2_read : Cond.selects yX2_read.cls yX2_read yX2_read ∈ gw := gm (List.mem_of_getElem? (i := 585) (by decide +kernel)) rfl
theorem dX9_village_7 : decode cX9_village 7 = .ok (.istore_n 1, 1) := by decide +kernel
theorem dX9_village_8 : decode cX9_village 8 = .ok (.iload_n 1, 1) := by decide +kernel
theorem dX9_village_9 : decode cX9_village 9 = .ok (.ifCond .ge 5, 3) := by decide +kernel
theorem dX9_village_14 : decode cX9_village 14 = .ok (.aload_n 0, 1) := by decide +kernel
theorem dX9_village_15 : decode cX9_village 15 = .ok (.aload_n 0, 1) := by decide +kernel
theorem dX9_village_16 : decode cX9_village 16 = .ok (.getfield 19, 3) := by decide +kernel
theorem dX9_village_19 : decode cX9_village 19 = .ok (.aload_n 0, 1) := by decide +kernel
theorem dX9_village_20 : decode cX9_village 20 = .ok (.getfield 10, 3) := by decide +kernel
theorem dX9_village_23 : decode cX9_village 23 = .ok (.invokevirtual 81, 3) := by decide +kernel
set_option maxRecDepth 100000 in
theorem wm_X9_81 : Cond.methodLink RX9 81 yX2_swapFor ∈ gw := gm (List.mem_of_getElem? (i := 726) (by decide +kernel)) rfl
set_option maxRecDepth 100000 in
theorem mi_X2_swapFor : MI yX2_swapFor cX2_swapFor 3 (some (.object "StoneTrust$Village")) 1 := ⟨gm (List.mem_of_getElem? (i := 729) rfl) rfl, gm (List.mem_of_getElem? (i := 118) (by decide +kernel)) rfl, by decide, by decide, by decide +kernel⟩
set_option maxRecDepth 100000 in
theorem in_X2_swapFor : Cond.instanceMethod yX2_swapFor ∈ gw := gm (List.mem_of_getElem? (i := 727) (by decide +kernel)) rfl
set_option maxRecDepth 100000 in
theorem se_X2_swapFor : Cond.selects yX2_swapFor.cls yX2_swapFor yX2_swapFor ∈ gw := gm (List.mem_of_getElem? (i := 728) (by decide +kernel)) rfl
theorem dX9_village_26 : decode cX9_village 26 = .ok (.putfield 10, 3) := by decide +kernel
theorem dX9_village_29 : decode cX9_village 29 = .ok (.aload_n 0, 1) := by decide +kernel
theorem dX9_village_30 : decode cX9_village 30 = .ok (.getfield 19, 3) := by decide +kernel
theorem dX9_village_33 : decode cX9_village 33 = .ok (.getfield 65, 3) := by decide +kernel
theorem dX9_village_36 : decode cX9_village 36 = .ok (.iconst 0, 1) := by decide +kernel
theorem dX9_village_37 : decode cX9_village 37 = .ok (.putfield 69, 3) := by decide +kernel
theorem dX9_village_40 : decode cX9_village 40 = .ok (.aload_n 0, 1) := by decide +kernel
theorem dX9_village_41 : decode cX9_village 41 = .ok (.getfield 28, 3) := by decide +kernel
theorem dX9_village_44 : decode cX9_village 44 = .ok (.iconst 0, 1) := by decide +kernel
theorem dX9_village_45 : decode cX9_village 45 = .ok (.putfield 85, 3) := by decide +kernel
set_option maxRecDepth 100000 in
theorem wf_X9_85 : Cond.fieldLinkNest RX9 85 "StoneTrust$Weighings" "size" "I" "StoneTrust" ∈ nests := nm_ (List.mem_of_getElem? (i := 166) (by decide +kernel)) rfl
theorem dX9_village_48 : decode cX9_village 48 = .ok (.aload_n 0, 1) := by decide +kernel
theorem dX9_village_49 : decode cX9_village 49 = .ok (.iconst 0, 1) := by decide +kernel
theorem dX9_village_50 : decode cX9_village 50 = .ok (.putfield 36, 3) := by decide +kernel
theorem dX9_village_53 : decode cX9_village 53 = .ok (.aload_n 0, 1) := by decide +kernel
theorem dX9_village_54 : decode cX9_village 54 = .ok (.getfield 50, 3) := by decide +kernel
theorem dX9_village_57 : decode cX9_village 57 = .ok (.invokevirtual 88, 3) := by decide +kernel
set_option maxRecDepth 100000 in
theorem wm_X9_88 : Cond.methodLink RX9 88 yX0_forget ∈ gw := gm (List.mem_of_getElem? (i := 730) (by decide +kernel)) rfl
set_option maxRecDepth 100000 in
theorem mi_X0_forget : MI yX0_forget cX0_forget 1 none 0 := ⟨gm (List.mem_of_getElem? (i := 733) rfl) rfl, gm (List.mem_of_getElem? (i := 121) (by decide +kernel)) rfl, by decide, by decide, by decide +kernel⟩
set_option maxRecDepth 100000 in
theorem in_X0_forget : Cond.instanceMethod yX0_forget ∈ gw := gm (List.mem_of_getElem? (i := 731) (by decide +kernel)) rfl
set_option maxRecDepth 100000 in
theorem se_X0_forget : Cond.selects yX0_forget.cls yX0_forget yX0_forget ∈ gw := gm (List.mem_of_getElem? (i := 732) (by decide +kernel)) rfl
theorem dX9_village_60 : decode cX9_village 60 = .ok (.iload_n 1, 1) := by decide +kernel
theorem dX9_village_61 : decode cX9_village 61 = .ok (.ireturn, 1) := by decide +kernel
set_option maxHeartbeats 4000000 in
set_option maxRecDepth 100000 in
theorem c28_X9_village (l : Launch) (G : va_G) (cI cJ cB cZ : ClassId) (a0 a1 a2 a3 a4 a5 a6 a7 a8 a9 a10 a11 a12 a13 a14 a15 a16 a17 a18 a19 a20 a21 a22 a23 a24 a25 a26 a27 a28 a29 a30 a31 a32 a33 a34 a35 a36 a37 a38 a39 a40 : Nat) : Con l G (TY cI cJ cB cZ) yX9_village cX9_village 2 (some .int) ({ frames := 3, cells := 0, slots := 0, locals := 64 } : Room) [.ref a0] [(a0, .inr (9, [.ref a1, .ref a2, .ref a3, .int 0, .int 0, .ref a4, .ref a5, .ref a6, .ref a7])), (a2, .inr (2, [.ref a8, .ref a9, .int 0, .int 0, .int 0, .int 0, .int 0, .int (-1)])), (a9, .inr (7, [.int 100, .int 100, .int 0, .ref a10, .ref a11, .int 0, .ref a12, .ref a13, .ref a14, .ref a15, .ref a16, .ref a17, .ref a18, .ref a19, .ref a20])), (a10, .inl (cI, 2, .inl (upd (upd (fun _ => 0) 0 16) 1 16))), (a11, .inl (cI, 2, .inl (upd (upd (fun _ => 0) 0 16) 1 16))), (a19, .inr (8, [.ref a21, .ref a22, .ref a23, .ref a24, .ref a25, .ref a26, .ref a27, .int 0])), (a20, .inr (3, [.ref a28, .ref a29, .ref a30, .ref a31, .int 0])), (a8, .inr (5, [.ref a32, .int 0, .int 0, .int 0, .int 0, .long 0, .int 0])), (a3, .inr (8, [.ref a33, .ref a34, .ref a35, .ref a36, .ref a37, .ref a38, .ref a39, .int 0])), (a5, .inr (0, [.ref a40, .int 0, .int 0, .long 0, .int 0, .int 0, .long 0]))] (QI G (TY cI cJ cB cZ) (fun (r : Int32) (u : Unit) => r = 0) (fun u : Unit => [])) := by
  refine k_met (by decide) (Nat.le_of_ble_eq_true rfl) ?_
  intro p e s m below meth c A ls hC hr hlk hnm hN hK hA hP hD hS hl
  have hl : lv_has ls 2 [(0, .ref a0)] := hl
  obtain ⟨hx, hb, hml, hown, hts⟩ := id hC
  refine lv_aload_n hx hb dX9_village_0 rfl (lv_at hl 0 rfl) ?_
  refine k_get hC hK hP iX9 0 1 wf_X9_19 rfl (by decide) rfl rfl dX9_village_1 ?_
  refine k_ci (wr := [(a0, .inr (9, [.ref a1, .ref a2, .ref a3, .int 0, .int 0, .ref a4, .ref a5, .ref a6, .ref a7])), (a3, .inr (8, [.ref a33, .ref a34, .ref a35, .ref a36, .ref a37, .ref a38, .ref a39, .int 0])), (a5, .inr (0, [.ref a40, .int 0, .int 0, .long 0, .int 0, .int 0, .long 0]))]) (k_rV hC hN hK hP hD (c25_X2_read l G cI cJ cB cZ a2 a8 a9 a10 a11 a12 a13 a14 a15 a16 a17 a18 a19 a20 a21 a22 a23 a24 a25 a26 a27 a28 a29 a30 a31 a32) [1, 2, 3, 4, 5, 6, 7] rfl (by decide) mi_X2_read in_X2_read se_X2_read wm_X9_77 2 1 rfl rfl rfl hl.1 rfl rfl (Nat.le_of_ble_eq_true rfl) ⟨(Nat.le_of_ble_eq_true rfl), (Nat.le_of_ble_eq_true rfl)⟩ dX9_village_4 ⟨(Nat.le_of_ble_eq_true rfl), (Nat.le_of_ble_eq_true rfl)⟩) hP hD hS hA [1, 2, 3, 4, 5, 6, 7] [0, 8, 9] rfl rfl (by decide) (by decide) (fun r1 u1 H locs hp hP hD hS => ?_)
  have hP : va_P G cl [(a0, .inr (9, [.ref a1, .ref a2, .ref a3, .int 0, .int 0, .ref a4, .ref a5, .ref a6, .ref a7])), (a3, .inr (8, [.ref a33, .ref a34, .ref a35, .ref a36, .ref a37, .ref a38, .ref a39, .int 0])), (a5, .inr (0, [.ref a40, .int 0, .int 0, .long 0, .int 0, .int 0, .long 0])), (a2, .inr (2, [.ref a8, .ref a9, .int 0, .int 0, .int 0, .int 0, .int 0, .int (-1)])), (a9, .inr (7, [.int 100, .int 100, .int 0, .ref a10, .ref a11, .int 0, .ref a12, .ref a13, .ref a14, .ref a15, .ref a16, .ref a17, .ref a18, .ref a19, .ref a20])), (a10, .inl (cI, 2, .inl (upd (upd (fun _ => 0) 0 16) 1 16))), (a11, .inl (cI, 2, .inl (upd (upd (fun _ => 0) 0 16) 1 16))), (a19, .inr (8, [.ref a21, .ref a22, .ref a23, .ref a24, .ref a25, .ref a26, .ref a27, .int 0])), (a20, .inr (3, [.ref a28, .ref a29, .ref a30, .ref a31, .int 0])), (a8, .inr (5, [.ref a32, .int 0, .int 0, .int 0, .int 0, .long 0, .int 0]))] H := hP
  have hD : va_D A [(a0, .inr (9, [.ref a1, .ref a2, .ref a3, .int 0, .int 0, .ref a4, .ref a5, .ref a6, .ref a7])), (a3, .inr (8, [.ref a33, .ref a34, .ref a35, .ref a36, .ref a37, .ref a38, .ref a39, .int 0])), (a5, .inr (0, [.ref a40, .int 0, .int 0, .long 0, .int 0, .int 0, .long 0])), (a2, .inr (2, [.ref a8, .ref a9, .int 0, .int 0, .int 0, .int 0, .int 0, .int (-1)])), (a9, .inr (7, [.int 100, .int 100, .int 0, .ref a10, .ref a11, .int 0, .ref a12, .ref a13, .ref a14, .ref a15, .ref a16, .ref a17, .ref a18, .ref a19, .ref a20])), (a10, .inl (cI, 2, .inl (upd (upd (fun _ => 0) 0 16) 1 16))), (a11, .inl (cI, 2, .inl (upd (upd (fun _ => 0) 0 16) 1 16))), (a19, .inr (8, [.ref a21, .ref a22, .ref a23, .ref a24, .ref a25, .ref a26, .ref a27, .int 0])), (a20, .inr (3, [.ref a28, .ref a29, .ref a30, .ref a31, .int 0])), (a8, .inr (5, [.ref a32, .int 0, .int 0, .int 0, .int 0, .long 0, .int 0]))] := hD
  subst hp
  refine lv_istore_n (lv' := [(1, .int 0), (0, .ref a0)]) hx hb dX9_village_7 rfl hl (by decide) rfl (fun ls hl => ?_)
  refine lv_iload_n hx hb dX9_village_8 rfl (lv_at hl 0 rfl) ?_
  refine lv_if_ge (tgt := 14) hx hb dX9_village_9 (by decide) (fun _ => ?_) (fun c_ => absurd (by decide +kernel) c_)
  refine lv_aload_n hx hb dX9_village_14 rfl (lv_at hl 1 rfl) ?_
  refine lv_aload_n hx hb dX9_village_15 rfl (lv_at hl 1 rfl) ?_
  refine k_get hC hK hP iX9 0 1 wf_X9_19 rfl (by decide) rfl rfl dX9_village_16 ?_
  refine lv_aload_n hx hb dX9_village_19 rfl (lv_at hl 1 rfl) ?_
  refine k_get hC hK hP iX9 0 0 wf_X9_10 rfl (by decide) rfl rfl dX9_village_20 ?_
  refine k_cr (wr := [(a0, .inr (9, [.ref a1, .ref a2, .ref a3, .int 0, .int 0, .ref a4, .ref a5, .ref a6, .ref a7])), (a3, .inr (8, [.ref a33, .ref a34, .ref a35, .ref a36, .ref a37, .ref a38, .ref a39, .int 0])), (a5, .inr (0, [.ref a40, .int 0, .int 0, .long 0, .int 0, .int 0, .long 0])), (a9, .inr (7, [.int 100, .int 100, .int 0, .ref a10, .ref a11, .int 0, .ref a12, .ref a13, .ref a14, .ref a15, .ref a16, .ref a17, .ref a18, .ref a19, .ref a20])), (a10, .inl (cI, 2, .inl (upd (upd (fun _ => 0) 0 16) 1 16))), (a11, .inl (cI, 2, .inl (upd (upd (fun _ => 0) 0 16) 1 16))), (a19, .inr (8, [.ref a21, .ref a22, .ref a23, .ref a24, .ref a25, .ref a26, .ref a27, .int 0])), (a20, .inr (3, [.ref a28, .ref a29, .ref a30, .ref a31, .int 0])), (a8, .inr (5, [.ref a32, .int 0, .int 0, .int 0, .int 0, .long 0, .int 0]))]) (k_rV hC hN hK hP hD (c26_X2_swapFor l G cI cJ cB cZ a2 a1 a8 a9) [3] rfl (by decide) mi_X2_swapFor in_X2_swapFor se_X2_swapFor wm_X9_81 2 3 rfl rfl rfl hl.1 rfl rfl (Nat.le_of_ble_eq_true rfl) ⟨(Nat.le_of_ble_eq_true rfl), (Nat.le_of_ble_eq_true rfl)⟩ dX9_village_23 ⟨(Nat.le_of_ble_eq_true rfl), (Nat.le_of_ble_eq_true rfl)⟩) hP hD hS hA [3] [0, 1, 2, 4, 5, 6, 7, 8, 9] rfl rfl (by decide) (by decide) (fun u2 H locs hp hP hD hS => ?_)
  have hP : va_P G cl [(a0, .inr (9, [.ref a1, .ref a2, .ref a3, .int 0, .int 0, .ref a4, .ref a5, .ref a6, .ref a7])), (a3, .inr (8, [.ref a33, .ref a34, .ref a35, .ref a36, .ref a37, .ref a38, .ref a39, .int 0])), (a5, .inr (0, [.ref a40, .int 0, .int 0, .long 0, .int 0, .int 0, .long 0])), (a9, .inr (7, [.int 100, .int 100, .int 0, .ref a10, .ref a11, .int 0, .ref a12, .ref a13, .ref a14, .ref a15, .ref a16, .ref a17, .ref a18, .ref a19, .ref a20])), (a10, .inl (cI, 2, .inl (upd (upd (fun _ => 0) 0 16) 1 16))), (a11, .inl (cI, 2, .inl (upd (upd (fun _ => 0) 0 16) 1 16))), (a19, .inr (8, [.ref a21, .ref a22, .ref a23, .ref a24, .ref a25, .ref a26, .ref a27, .int 0])), (a20, .inr (3, [.ref a28, .ref a29, .ref a30, .ref a31, .int 0])), (a8, .inr (5, [.ref a32, .int 0, .int 0, .int 0, .int 0, .long 0, .int 0])), (a2, .inr (2, [.ref a8, .ref a1, .int 0, .int 0, .int 0, .int 0, .int 0, .int (-1)]))] H := hP
  have hD : va_D A [(a0, .inr (9, [.ref a1, .ref a2, .ref a3, .int 0, .int 0, .ref a4, .ref a5, .ref a6, .ref a7])), (a3, .inr (8, [.ref a33, .ref a34, .ref a35, .ref a36, .ref a37, .ref a38, .ref a39, .int 0])), (a5, .inr (0, [.ref a40, .int 0, .int 0, .long 0, .int 0, .int 0, .long 0])), (a9, .inr (7, [.int 100, .int 100, .int 0, .ref a10, .ref a11, .int 0, .ref a12, .ref a13, .ref a14, .ref a15, .ref a16, .ref a17, .ref a18, .ref a19, .ref a20])), (a10, .inl (cI, 2, .inl (upd (upd (fun _ => 0) 0 16) 1 16))), (a11, .inl (cI, 2, .inl (upd (upd (fun _ => 0) 0 16) 1 16))), (a19, .inr (8, [.ref a21, .ref a22, .ref a23, .ref a24, .ref a25, .ref a26, .ref a27, .int 0])), (a20, .inr (3, [.ref a28, .ref a29, .ref a30, .ref a31, .int 0])), (a8, .inr (5, [.ref a32, .int 0, .int 0, .int 0, .int 0, .long 0, .int 0])), (a2, .inr (2, [.ref a8, .ref a1, .int 0, .int 0, .int 0, .int 0, .int 0, .int (-1)]))] := hD
  refine k_put hC hK hP hD hS iX9 tyX9_ok nmX9 0 0 wf_X9_10 rfl (by decide) rfl rfl rfl rfl (Nat.le_of_ble_eq_true rfl) dX9_village_26 (fun H locs hP hD hS => ?_)
  have hP : va_P G cl [(a0, .inr (9, [.ref a9, .ref a2, .ref a3, .int 0, .int 0, .ref a4, .ref a5, .ref a6, .ref a7])), (a3, .inr (8, [.ref a33, .ref a34, .ref a35, .ref a36, .ref a37, .ref a38, .ref a39, .int 0])), (a5, .inr (0, [.ref a40, .int 0, .int 0, .long 0, .int 0, .int 0, .long 0])), (a9, .inr (7, [.int 100, .int 100, .int 0, .ref a10, .ref a11, .int 0, .ref a12, .ref a13, .ref a14, .ref a15, .ref a16, .ref a17, .ref a18, .ref a19, .ref a20])), (a10, .inl (cI, 2, .inl (upd (upd (fun _ => 0) 0 16) 1 16))), (a11, .inl (cI, 2, .inl (upd (upd (fun _ => 0) 0 16) 1 16))), (a19, .inr (8, [.ref a21, .ref a22, .ref a23, .ref a24, .ref a25, .ref a26, .ref a27, .int 0])), (a20, .inr (3, [.ref a28, .ref a29, .ref a30, .ref a31, .int 0])), (a8, .inr (5, [.ref a32, .int 0, .int 0, .int 0, .int 0, .long 0, .int 0])), (a2, .inr (2, [.ref a8, .ref a1, .int 0, .int 0, .int 0, .int 0, .int 0, .int (-1)]))] H := hP
  have hD : va_D A [(a0, .inr (9, [.ref a9, .ref a2, .ref a3, .int 0, .int 0, .ref a4, .ref a5, .ref a6, .ref a7])), (a3, .inr (8, [.ref a33, .ref a34, .ref a35, .ref a36, .ref a37, .ref a38, .ref a39, .int 0])), (a5, .inr (0, [.ref a40, .int 0, .int 0, .long 0, .int 0, .int 0, .long 0])), (a9, .inr (7, [.int 100, .int 100, .int 0, .ref a10, .ref a11, .int 0, .ref a12, .ref a13, .ref a14, .ref a15, .ref a16, .ref a17, .ref a18, .ref a19, .ref a20])), (a10, .inl (cI, 2, .inl (upd (upd (fun _ => 0) 0 16) 1 16))), (a11, .inl (cI, 2, .inl (upd (upd (fun _ => 0) 0 16) 1 16))), (a19, .inr (8, [.ref a21, .ref a22, .ref a23, .ref a24, .ref a25, .ref a26, .ref a27, .int 0])), (a20, .inr (3, [.ref a28, .ref a29, .ref a30, .ref a31, .int 0])), (a8, .inr (5, [.ref a32, .int 0, .int 0, .int 0, .int 0, .long 0, .int 0])), (a2, .inr (2, [.ref a8, .ref a1, .int 0, .int 0, .int 0, .int 0, .int 0, .int (-1)]))] := hD
  refine lv_aload_n hx hb dX9_village_29 rfl (lv_at hl 1 rfl) ?_
  refine k_get hC hK hP iX9 0 1 wf_X9_19 rfl (by decide) rfl rfl dX9_village_30 ?_
  refine k_getN hC hN hK hP iX2 9 0 wf_X9_65 rfl (by decide) rfl rfl dX9_village_33 ?_
  refine lv_iconst (v := 0) hx hb dX9_village_36 (by decide) ?_
  refine k_putN hC hN hK hP hD hS iX5 tyX5_ok nmX5 8 1 wf_X9_69 rfl (by decide) rfl rfl rfl rfl (Nat.le_of_ble_eq_true rfl) dX9_village_37 (fun H locs hP hD hS => ?_)
  have hP : va_P G cl [(a0, .inr (9, [.ref a9, .ref a2, .ref a3, .int 0, .int 0, .ref a4, .ref a5, .ref a6, .ref a7])), (a3, .inr (8, [.ref a33, .ref a34, .ref a35, .ref a36, .ref a37, .ref a38, .ref a39, .int 0])), (a5, .inr (0, [.ref a40, .int 0, .int 0, .long 0, .int 0, .int 0, .long 0])), (a9, .inr (7, [.int 100, .int 100, .int 0, .ref a10, .ref a11, .int 0, .ref a12, .ref a13, .ref a14, .ref a15, .ref a16, .ref a17, .ref a18, .ref a19, .ref a20])), (a10, .inl (cI, 2, .inl (upd (upd (fun _ => 0) 0 16) 1 16))), (a11, .inl (cI, 2, .inl (upd (upd (fun _ => 0) 0 16) 1 16))), (a19, .inr (8, [.ref a21, .ref a22, .ref a23, .ref a24, .ref a25, .ref a26, .ref a27, .int 0])), (a20, .inr (3, [.ref a28, .ref a29, .ref a30, .ref a31, .int 0])), (a8, .inr (5, [.ref a32, .int 0, .int 0, .int 0, .int 0, .long 0, .int 0])), (a2, .inr (2, [.ref a8, .ref a1, .int 0, .int 0, .int 0, .int 0, .int 0, .int (-1)]))] H := hP
  have hD : va_D A [(a0, .inr (9, [.ref a9, .ref a2, .ref a3, .int 0, .int 0, .ref a4, .ref a5, .ref a6, .ref a7])), (a3, .inr (8, [.ref a33, .ref a34, .ref a35, .ref a36, .ref a37, .ref a38, .ref a39, .int 0])), (a5, .inr (0, [.ref a40, .int 0, .int 0, .long 0, .int 0, .int 0, .long 0])), (a9, .inr (7, [.int 100, .int 100, .int 0, .ref a10, .ref a11, .int 0, .ref a12, .ref a13, .ref a14, .ref a15, .ref a16, .ref a17, .ref a18, .ref a19, .ref a20])), (a10, .inl (cI, 2, .inl (upd (upd (fun _ => 0) 0 16) 1 16))), (a11, .inl (cI, 2, .inl (upd (upd (fun _ => 0) 0 16) 1 16))), (a19, .inr (8, [.ref a21, .ref a22, .ref a23, .ref a24, .ref a25, .ref a26, .ref a27, .int 0])), (a20, .inr (3, [.ref a28, .ref a29, .ref a30, .ref a31, .int 0])), (a8, .inr (5, [.ref a32, .int 0, .int 0, .int 0, .int 0, .long 0, .int 0])), (a2, .inr (2, [.ref a8, .ref a1, .int 0, .int 0, .int 0, .int 0, .int 0, .int (-1)]))] := hD
  refine lv_aload_n hx hb dX9_village_40 rfl (lv_at hl 1 rfl) ?_
  refine k_get hC hK hP iX9 0 2 wf_X9_28 rfl (by decide) rfl rfl dX9_village_41 ?_
  refine lv_iconst (v := 0) hx hb dX9_village_44 (by decide) ?_
  refine k_putN hC hN hK hP hD hS iX8 tyX8_ok nmX8 1 7 wf_X9_85 rfl (by decide) rfl rfl rfl rfl (Nat.le_of_ble_eq_true rfl) dX9_village_45 (fun H locs hP hD hS => ?_)
  have hP : va_P G cl [(a0, .inr (9, [.ref a9, .ref a2, .ref a3, .int 0, .int 0, .ref a4, .ref a5, .ref a6, .ref a7])), (a3, .inr (8, [.ref a33, .ref a34, .ref a35, .ref a36, .ref a37, .ref a38, .ref a39, .int 0])), (a5, .inr (0, [.ref a40, .int 0, .int 0, .long 0, .int 0, .int 0, .long 0])), (a9, .inr (7, [.int 100, .int 100, .int 0, .ref a10, .ref a11, .int 0, .ref a12, .ref a13, .ref a14, .ref a15, .ref a16, .ref a17, .ref a18, .ref a19, .ref a20])), (a10, .inl (cI, 2, .inl (upd (upd (fun _ => 0) 0 16) 1 16))), (a11, .inl (cI, 2, .inl (upd (upd (fun _ => 0) 0 16) 1 16))), (a19, .inr (8, [.ref a21, .ref a22, .ref a23, .ref a24, .ref a25, .ref a26, .ref a27, .int 0])), (a20, .inr (3, [.ref a28, .ref a29, .ref a30, .ref a31, .int 0])), (a8, .inr (5, [.ref a32, .int 0, .int 0, .int 0, .int 0, .long 0, .int 0])), (a2, .inr (2, [.ref a8, .ref a1, .int 0, .int 0, .int 0, .int 0, .int 0, .int (-1)]))] H := hP
  have hD : va_D A [(a0, .inr (9, [.ref a9, .ref a2, .ref a3, .int 0, .int 0, .ref a4, .ref a5, .ref a6, .ref a7])), (a3, .inr (8, [.ref a33, .ref a34, .ref a35, .ref a36, .ref a37, .ref a38, .ref a39, .int 0])), (a5, .inr (0, [.ref a40, .int 0, .int 0, .long 0, .int 0, .int 0, .long 0])), (a9, .inr (7, [.int 100, .int 100, .int 0, .ref a10, .ref a11, .int 0, .ref a12, .ref a13, .ref a14, .ref a15, .ref a16, .ref a17, .ref a18, .ref a19, .ref a20])), (a10, .inl (cI, 2, .inl (upd (upd (fun _ => 0) 0 16) 1 16))), (a11, .inl (cI, 2, .inl (upd (upd (fun _ => 0) 0 16) 1 16))), (a19, .inr (8, [.ref a21, .ref a22, .ref a23, .ref a24, .ref a25, .ref a26, .ref a27, .int 0])), (a20, .inr (3, [.ref a28, .ref a29, .ref a30, .ref a31, .int 0])), (a8, .inr (5, [.ref a32, .int 0, .int 0, .int 0, .int 0, .long 0, .int 0])), (a2, .inr (2, [.ref a8, .ref a1, .int 0, .int 0, .int 0, .int 0, .int 0, .int (-1)]))] := hD
  refine lv_aload_n hx hb dX9_village_48 rfl (lv_at hl 1 rfl) ?_
  refine lv_iconst (v := 0) hx hb dX9_village_49 (by decide) ?_
  refine k_put hC hK hP hD hS iX9 tyX9_ok nmX9 0 4 wf_X9_36 rfl (by decide) rfl rfl rfl rfl (Nat.le_of_ble_eq_true rfl) dX9_village_50 (fun H locs hP hD hS => ?_)
  have hP : va_P G cl [(a0, .inr (9, [.ref a9, .ref a2, .ref a3, .int 0, .int 0, .ref a4, .ref a5, .ref a6, .ref a7])), (a3, .inr (8, [.ref a33, .ref a34, .ref a35, .ref a36, .ref a37, .ref a38, .ref a39, .int 0])), (a5, .inr (0, [.ref a40, .int 0, .int 0, .long 0, .int 0, .int 0, .long 0])), (a9, .inr (7, [.int 100, .int 100, .int 0, .ref a10, .ref a11, .int 0, .ref a12, .ref a13, .ref a14, .ref a15, .ref a16, .ref a17, .ref a18, .ref a19, .ref a20])), (a10, .inl (cI, 2, .inl (upd (upd (fun _ => 0) 0 16) 1 16))), (a11, .inl (cI, 2, .inl (upd (upd (fun _ => 0) 0 16) 1 16))), (a19, .inr (8, [.ref a21, .ref a22, .ref a23, .ref a24, .ref a25, .ref a26, .ref a27, .int 0])), (a20, .inr (3, [.ref a28, .ref a29, .ref a30, .ref a31, .int 0])), (a8, .inr (5, [.ref a32, .int 0, .int 0, .int 0, .int 0, .long 0, .int 0])), (a2, .inr (2, [.ref a8, .ref a1, .int 0, .int 0, .int 0, .int 0, .int 0, .int (-1)]))] H := hP
  have hD : va_D A [(a0, .inr (9, [.ref a9, .ref a2, .ref a3, .int 0, .int 0, .ref a4, .ref a5, .ref a6, .ref a7])), (a3, .inr (8, [.ref a33, .ref a34, .ref a35, .ref a36, .ref a37, .ref a38, .ref a39, .int 0])), (a5, .inr (0, [.ref a40, .int 0, .int 0, .long 0, .int 0, .int 0, .long 0])), (a9, .inr (7, [.int 100, .int 100, .int 0, .ref a10, .ref a11, .int 0, .ref a12, .ref a13, .ref a14, .ref a15, .ref a16, .ref a17, .ref a18, .ref a19, .ref a20])), (a10, .inl (cI, 2, .inl (upd (upd (fun _ => 0) 0 16) 1 16))), (a11, .inl (cI, 2, .inl (upd (upd (fun _ => 0) 0 16) 1 16))), (a19, .inr (8, [.ref a21, .ref a22, .ref a23, .ref a24, .ref a25, .ref a26, .ref a27, .int 0])), (a20, .inr (3, [.ref a28, .ref a29, .ref a30, .ref a31, .int 0])), (a8, .inr (5, [.ref a32, .int 0, .int 0, .int 0, .int 0, .long 0, .int 0])), (a2, .inr (2, [.ref a8, .ref a1, .int 0, .int 0, .int 0, .int 0, .int 0, .int (-1)]))] := hD
  refine lv_aload_n hx hb dX9_village_53 rfl (lv_at hl 1 rfl) ?_
  refine k_get hC hK hP iX9 0 6 wf_X9_50 rfl (by decide) rfl rfl dX9_village_54 ?_
  refine k_cv (wr := [(a0, .inr (9, [.ref a9, .ref a2, .ref a3, .int 0, .int 0, .ref a4, .ref a5, .ref a6, .ref a7])), (a3, .inr (8, [.ref a33, .ref a34, .ref a35, .ref a36, .ref a37, .ref a38, .ref a39, .int 0])), (a9, .inr (7, [.int 100, .int 100, .int 0, .ref a10, .ref a11, .int 0, .ref a12, .ref a13, .ref a14, .ref a15, .ref a16, .ref a17, .ref a18, .ref a19, .ref a20])), (a10, .inl (cI, 2, .inl (upd (upd (fun _ => 0) 0 16) 1 16))), (a11, .inl (cI, 2, .inl (upd (upd (fun _ => 0) 0 16) 1 16))), (a19, .inr (8, [.ref a21, .ref a22, .ref a23, .ref a24, .ref a25, .ref a26, .ref a27, .int 0])), (a20, .inr (3, [.ref a28, .ref a29, .ref a30, .ref a31, .int 0])), (a8, .inr (5, [.ref a32, .int 0, .int 0, .int 0, .int 0, .long 0, .int 0])), (a2, .inr (2, [.ref a8, .ref a1, .int 0, .int 0, .int 0, .int 0, .int 0, .int (-1)]))]) (k_rV hC hN hK hP hD (c27_X0_forget l G cI cJ cB cZ a5 a40) [2] rfl (by decide) mi_X0_forget in_X0_forget se_X0_forget wm_X9_88 0 2 rfl rfl rfl hl.1 rfl rfl (Nat.le_of_ble_eq_true rfl) ⟨(Nat.le_of_ble_eq_true rfl), (Nat.le_of_ble_eq_true rfl)⟩ dX9_village_57 ⟨(Nat.le_of_ble_eq_true rfl), (Nat.le_of_ble_eq_true rfl)⟩) hP hD hS hA [2] [0, 1, 3, 4, 5, 6, 7, 8, 9] rfl rfl (by decide) (by decide) (fun u3 H locs hp hP hD hS => ?_)
  have hP : va_P G cl [(a0, .inr (9, [.ref a9, .ref a2, .ref a3, .int 0, .int 0, .ref a4, .ref a5, .ref a6, .ref a7])), (a3, .inr (8, [.ref a33, .ref a34, .ref a35, .ref a36, .ref a37, .ref a38, .ref a39, .int 0])), (a9, .inr (7, [.int 100, .int 100, .int 0, .ref a10, .ref a11, .int 0, .ref a12, .ref a13, .ref a14, .ref a15, .ref a16, .ref a17, .ref a18, .ref a19, .ref a20])), (a10, .inl (cI, 2, .inl (upd (upd (fun _ => 0) 0 16) 1 16))), (a11, .inl (cI, 2, .inl (upd (upd (fun _ => 0) 0 16) 1 16))), (a19, .inr (8, [.ref a21, .ref a22, .ref a23, .ref a24, .ref a25, .ref a26, .ref a27, .int 0])), (a20, .inr (3, [.ref a28, .ref a29, .ref a30, .ref a31, .int 0])), (a8, .inr (5, [.ref a32, .int 0, .int 0, .int 0, .int 0, .long 0, .int 0])), (a2, .inr (2, [.ref a8, .ref a1, .int 0, .int 0, .int 0, .int 0, .int 0, .int (-1)])), (a5, .inr (0, [.ref a40, .int 0, .int 0, .long 0, .int 1, .int 0, .long 0]))] H := hP
  have hD : va_D A [(a0, .inr (9, [.ref a9, .ref a2, .ref a3, .int 0, .int 0, .ref a4, .ref a5, .ref a6, .ref a7])), (a3, .inr (8, [.ref a33, .ref a34, .ref a35, .ref a36, .ref a37, .ref a38, .ref a39, .int 0])), (a9, .inr (7, [.int 100, .int 100, .int 0, .ref a10, .ref a11, .int 0, .ref a12, .ref a13, .ref a14, .ref a15, .ref a16, .ref a17, .ref a18, .ref a19, .ref a20])), (a10, .inl (cI, 2, .inl (upd (upd (fun _ => 0) 0 16) 1 16))), (a11, .inl (cI, 2, .inl (upd (upd (fun _ => 0) 0 16) 1 16))), (a19, .inr (8, [.ref a21, .ref a22, .ref a23, .ref a24, .ref a25, .ref a26, .ref a27, .int 0])), (a20, .inr (3, [.ref a28, .ref a29, .ref a30, .ref a31, .int 0])), (a8, .inr (5, [.ref a32, .int 0, .int 0, .int 0, .int 0, .long 0, .int 0])), (a2, .inr (2, [.ref a8, .ref a1, .int 0, .int 0, .int 0, .int 0, .int 0, .int (-1)])), (a5, .inr (0, [.ref a40, .int 0, .int 0, .long 0, .int 1, .int 0, .long 0]))] := hD
  refine lv_iload_n hx hb dX9_village_60 rfl (lv_at hl 0 rfl) ?_
  exact k_iret hC hr hlk hK hP hD hS () [] rfl (by decide) rfl (Nat.le_of_ble_eq_true rfl) (Nat.le_of_ble_eq_true rfl) dX9_village_61
theorem dX9_fault_0 : decode cX9_fault 0 = .ok (.iload_n 1, 1) := by decide +kernel
theorem dX9_fault_1 : decode cX9_fault 1 = .ok (.ifCond .ne 11, 3) := by decide +kernel
theorem dX9_fault_12 : decode cX9_fault 12 = .ok (.iload_n 1, 1) := by decide +kernel
theorem dX9_fault_13 : decode cX9_fault 13 = .ok (.iconst 1, 1) := by decide +kernel
theorem dX9_fault_14 : decode cX9_fault 14 = .ok (.if_icmp .ne 13, 3) := by decide +kernel
theorem dX9_fault_27 : decode cX9_fault 27 = .ok (.iconst (-1), 1) := by decide +kernel
theorem dX9_fault_28 : decode cX9_fault 28 = .ok (.ireturn, 1) := by decide +kernel
theorem dX9_fault_17 : decode cX9_fault 17 = .ok (.aload_n 0, 1) := by decide +kernel
theorem dX9_fault_18 : decode cX9_fault 18 = .ok (.getfield 19, 3) := by decide +kernel
theorem dX9_fault_21 : decode cX9_fault 21 = .ok (.getfield 96, 3) := by decide +kernel
set_option maxRecDepth 100000 in
theorem wf_X9_96 : Cond.fieldLinkNest RX9 96 "StoneTrust$Reader" "faultPlace" "I" "StoneTrust" ∈ nests := nm_ (List.mem_of_getElem? (i := 349) (by decide +kernel)) rfl
theorem dX9_fault_24 : decode cX9_fault 24 = .ok (.goto 4, 3) := by decide +kernel
theorem dX9_fault_4 : decode cX9_fault 4 = .ok (.aload_n 0, 1) := by decide +kernel
theorem dX9_fault_5 : decode cX9_fault 5 = .ok (.getfield 19, 3) := by decide +kernel
theorem dX9_fault_8 : decode cX9_fault 8 = .ok (.getfield 93, 3) := by decide +kernel
set_option maxRecDepth 100000 in
theorem wf_X9_93 : Cond.fieldLinkNest RX9 93 "StoneTrust$Reader" "fault" "I" "StoneTrust" ∈ nests := nm_ (List.mem_of_getElem? (i := 347) (by decide +kernel)) rfl
theorem dX9_fault_11 : decode cX9_fault 11 = .ok (.ireturn, 1) := by decide +kernel
set_option maxHeartbeats 4000000 in
set_option maxRecDepth 100000 in
theorem c29_X9_fault (l : Launch) (G : va_G) (cI cJ cB cZ : ClassId) (a0 a1 a2 a3 a4 a5 a6 a7 a8 a9 : Nat) (x0 : Int32) : Con l G (TY cI cJ cB cZ) yX9_fault cX9_fault 2 (some .int) ({ frames := 0, cells := 0, slots := 0, locals := 0 } : Room) [.ref a0, .int x0] [(a0, .inr (9, [.ref a1, .ref a2, .ref a3, .int 0, .int 0, .ref a4, .ref a5, .ref a6, .ref a7])), (a2, .inr (2, [.ref a8, .ref a9, .int 0, .int 0, .int 0, .int 0, .int 0, .int (-1)]))] (QI G (TY cI cJ cB cZ) (fun (r : Int32) (u : Unit) => r = sp_end x0) (fun u : Unit => [])) := by
  refine k_met (by decide) (Nat.le_of_ble_eq_true rfl) ?_
  intro p e s m below meth c A ls hC hr hlk hnm hN hK hA hP hD hS hl
  have hl : lv_has ls 2 [(0, .ref a0), (1, .int x0)] := hl
  obtain ⟨hx, hb, hml, hown, hts⟩ := id hC
  refine lv_iload_n hx hb dX9_fault_0 rfl (lv_at hl 1 rfl) ?_
  refine lv_if_ne (tgt := 12) hx hb dX9_fault_1 (by decide) (fun c_1 => ?_) (fun c_1 => ?_)
  · have d_1 : x0.toInt ≠ 0 := fa_ne c_1
    refine lv_iload_n hx hb dX9_fault_12 rfl (lv_at hl 1 rfl) ?_
    refine lv_iconst (v := 1) hx hb dX9_fault_13 (by decide) ?_
    refine lv_icmp_ne (tgt := 27) hx hb dX9_fault_14 (by decide) (fun c_2 => ?_) (fun c_2 => ?_)
    · have d_2 : x0.toInt ≠ 1 := fa_ne c_2
      refine lv_iconst (v := (-1)) hx hb dX9_fault_27 (by decide) ?_
      exact k_iret hC hr hlk hK hP hD hS () [] rfl (by decide) (by first | decide | (unfold sp_end; rw [if_neg (by omega)]) | (unfold sp_end; rw [if_pos (by omega)])) (Nat.le_of_ble_eq_true rfl) (Nat.le_of_ble_eq_true rfl) dX9_fault_28
    · have d_2 : x0.toInt = 1 := (fa_eq _ _).mp c_2
      obtain rfl : x0 = 1 := (fa_eq _ _).mpr (show x0.toInt = 1 by omega)
      refine lv_aload_n hx hb dX9_fault_17 rfl (lv_at hl 0 rfl) ?_
      refine k_get hC hK hP iX9 0 1 wf_X9_19 rfl (by decide) rfl rfl dX9_fault_18 ?_
      refine k_getN hC hN hK hP iX2 1 7 wf_X9_96 rfl (by decide) rfl rfl dX9_fault_21 ?_
      refine lv_goto (tgt := 28) hx hb dX9_fault_24 (by decide) ?_
      exact k_iret hC hr hlk hK hP hD hS () [] rfl (by decide) (by first | decide | (unfold sp_end; rw [if_neg (by omega)]) | (unfold sp_end; rw [if_pos (by omega)])) (Nat.le_of_ble_eq_true rfl) (Nat.le_of_ble_eq_true rfl) dX9_fault_28
  · have d_1 : x0.toInt = 0 := (fa_eq _ _).mp c_1
    obtain rfl : x0 = 0 := (fa_eq _ _).mpr (show x0.toInt = 0 by omega)
    refine lv_aload_n hx hb dX9_fault_4 rfl (lv_at hl 0 rfl) ?_
    refine k_get hC hK hP iX9 0 1 wf_X9_19 rfl (by decide) rfl rfl dX9_fault_5 ?_
    refine k_getN hC hN hK hP iX2 1 6 wf_X9_93 rfl (by decide) rfl rfl dX9_fault_8 ?_
    exact k_iret hC hr hlk hK hP hD hS () [] rfl (by decide) (by first | decide | (unfold sp_end; rw [if_neg (by omega)]) | (unfold sp_end; rw [if_pos (by omega)])) (Nat.le_of_ble_eq_true rfl) (Nat.le_of_ble_eq_true rfl) dX9_fault_11
theorem dX9_isPile_0 : decode cX9_isPile 0 = .ok (.iload_n 1, 1) := by decide +kernel
theorem dX9_isPile_1 : decode cX9_isPile 1 = .ok (.ifCond .le 20, 3) := by decide +kernel
theorem dX9_isPile_21 : decode cX9_isPile 21 = .ok (.iconst 0, 1) := by decide +kernel
theorem dX9_isPile_22 : decode cX9_isPile 22 = .ok (.ireturn, 1) := by decide +kernel
theorem dX9_isPile_4 : decode cX9_isPile 4 = .ok (.iload_n 1, 1) := by decide +kernel
theorem dX9_isPile_5 : decode cX9_isPile 5 = .ok (.iconst 1, 1) := by decide +kernel
theorem dX9_isPile_6 : decode cX9_isPile 6 = .ok (.aload_n 0, 1) := by decide +kernel
theorem dX9_isPile_7 : decode cX9_isPile 7 = .ok (.getfield 10, 3) := by decide +kernel
theorem dX9_isPile_10 : decode cX9_isPile 10 = .ok (.getfield 171, 3) := by decide +kernel
set_option maxRecDepth 100000 in
theorem wf_X9_171 : Cond.fieldLinkNest RX9 171 "StoneTrust$Village" "stones" "I" "StoneTrust" ∈ nests := nm_ (List.mem_of_getElem? (i := 242) (by decide +kernel)) rfl
theorem dX9_isPile_13 : decode cX9_isPile 13 = .ok (.ishl, 1) := by decide +kernel
theorem dX9_isPile_14 : decode cX9_isPile 14 = .ok (.if_icmp .ge 7, 3) := by decide +kernel
set_option maxHeartbeats 4000000 in
set_option maxRecDepth 100000 in
theorem c30_X9_isPile (l : Launch) (G : va_G) (cI cJ cB cZ : ClassId) (a0 a1 a2 a3 a4 a5 a6 a7 a8 a9 a10 a11 a12 a13 a14 a15 a16 a17 a18 : Nat) (x0 : Int32) : Con l G (TY cI cJ cB cZ) yX9_isPile cX9_isPile 2 (some .boolean) ({ frames := 0, cells := 0, slots := 0, locals := 0 } : Room) [.ref a0, .int x0] [(a0, .inr (9, [.ref a1, .ref a2, .ref a3, .int 0, .int 0, .ref a4, .ref a5, .ref a6, .ref a7])), (a1, .inr (7, [.int 100, .int 100, .int 0, .ref a8, .ref a9, .int 0, .ref a10, .ref a11, .ref a12, .ref a13, .ref a14, .ref a15, .ref a16, .ref a17, .ref a18]))] (QI G (TY cI cJ cB cZ) (fun (r : Int32) (u : Unit) => r = 0) (fun u : Unit => [(a0, .inr (9, [.ref a1, .ref a2, .ref a3, .int 0, .int 0, .ref a4, .ref a5, .ref a6, .ref a7])), (a1, .inr (7, [.int 100, .int 100, .int 0, .ref a8, .ref a9, .int 0, .ref a10, .ref a11, .ref a12, .ref a13, .ref a14, .ref a15, .ref a16, .ref a17, .ref a18]))])) := by
  refine k_met (by decide) (Nat.le_of_ble_eq_true rfl) ?_
  intro p e s m below meth c A ls hC hr hlk hnm hN hK hA hP hD hS hl
  have hl : lv_has ls 2 [(0, .ref a0), (1, .int x0)] := hl
  obtain ⟨hx, hb, hml, hown, hts⟩ := id hC
  refine lv_iload_n hx hb dX9_isPile_0 rfl (lv_at hl 1 rfl) ?_
  refine lv_if_le (tgt := 21) hx hb dX9_isPile_1 (by decide) (fun c_1 => ?_) (fun c_1 => ?_)
  · have d_1 : x0.toInt ≤ 0 := (fa_le _ _).mp c_1
    refine lv_iconst (v := 0) hx hb dX9_isPile_21 (by decide) ?_
    exact k_zret hC hr hlk hK hP hD hS () [0, 1] rfl (by decide) rfl rfl (Nat.le_of_ble_eq_true rfl) (Nat.le_of_ble_eq_true rfl) dX9_isPile_22
  · have d_1 : 0 < x0.toInt := fa_nle c_1
    refine lv_iload_n hx hb dX9_isPile_4 rfl (lv_at hl 1 rfl) ?_
    refine lv_iconst (v := 1) hx hb dX9_isPile_5 (by decide) ?_
    refine lv_aload_n hx hb dX9_isPile_6 rfl (lv_at hl 0 rfl) ?_
    refine k_get hC hK hP iX9 0 0 wf_X9_10 rfl (by decide) rfl rfl dX9_isPile_7 ?_
    refine k_getN hC hN hK hP iX7 1 5 wf_X9_171 rfl (by decide) rfl rfl dX9_isPile_10 ?_
    refine lv_ishl hx hb dX9_isPile_13 ?_
    refine k_i 1 (by decide +kernel) ?_
    refine lv_icmp_ge (tgt := 21) hx hb dX9_isPile_14 (by decide) (fun c_2 => ?_) (fun c_2 => by have d_2 : x0.toInt < 1 := fa_nle c_2; omega)
    have d_2 : 1 ≤ x0.toInt := (fa_le _ _).mp c_2
    refine lv_iconst (v := 0) hx hb dX9_isPile_21 (by decide) ?_
    exact k_zret hC hr hlk hK hP hD hS () [0, 1] rfl (by decide) rfl rfl (Nat.le_of_ble_eq_true rfl) (Nat.le_of_ble_eq_true rfl) dX9_isPile_22
theorem dX9_canWeigh_0 : decode cX9_canWeigh 0 = .ok (.aload_n 0, 1) := by decide +kernel
theorem dX9_canWeigh_1 : decode cX9_canWeigh 1 = .ok (.iload_n 1, 1) := by decide +kernel
theorem dX9_canWeigh_2 : decode cX9_canWeigh 2 = .ok (.invokevirtual 245, 3) := by decide +kernel
set_option maxRecDepth 100000 in
theorem wm_X9_245 : Cond.methodLink RX9 245 yX9_isPile ∈ gw := gm (List.mem_of_getElem? (i := 746) (by decide +kernel)) rfl
set_option maxRecDepth 100000 in
theorem mi_X9_isPile : MI yX9_isPile cX9_isPile 2 (some .boolean) 1 := ⟨gm (List.mem_of_getElem? (i := 749) rfl) rfl, gm (List.mem_of_getElem? (i := 112) (by decide +kernel)) rfl, by decide, by decide, by decide +kernel⟩
set_option maxRecDepth 100000 in
theorem in_X9_isPile : Cond.instanceMethod yX9_isPile ∈ gw := gm (List.mem_of_getElem? (i := 748) (by decide +kernel)) rfl
set_option maxRecDepth 100000 in
theorem se_X9_isPile : Cond.selects yX9_isPile.cls yX9_isPile yX9_isPile ∈ gw := gm (List.mem_of_getElem? (i := 20) (by decide +kernel)) rfl
theorem dX9_canWeigh_5 : decode cX9_canWeigh 5 = .ok (.ifCond .eq 21, 3) := by decide +kernel
theorem dX9_canWeigh_26 : decode cX9_canWeigh 26 = .ok (.iconst 0, 1) := by decide +kernel
theorem dX9_canWeigh_27 : decode cX9_canWeigh 27 = .ok (.ireturn, 1) := by decide +kernel
set_option maxHeartbeats 4000000 in
set_option maxRecDepth 100000 in
theorem c31_X9_canWeigh (l : Launch) (G : va_G) (cI cJ cB cZ : ClassId) (a0 a1 a2 a3 a4 a5 a6 a7 a8 a9 a10 a11 a12 a13 a14 a15 a16 a17 a18 : Nat) (x0 : Int32) (x1 : Int32) : Con l G (TY cI cJ cB cZ) yX9_canWeigh cX9_canWeigh 3 (some .boolean) ({ frames := 1, cells := 0, slots := 0, locals := 21 } : Room) [.ref a0, .int x0, .int x1] [(a0, .inr (9, [.ref a1, .ref a2, .ref a3, .int 0, .int 0, .ref a4, .ref a5, .ref a6, .ref a7])), (a1, .inr (7, [.int 100, .int 100, .int 0, .ref a8, .ref a9, .int 0, .ref a10, .ref a11, .ref a12, .ref a13, .ref a14, .ref a15, .ref a16, .ref a17, .ref a18]))] (QI G (TY cI cJ cB cZ) (fun (r : Int32) (u : Unit) => r = 0) (fun u : Unit => [(a0, .inr (9, [.ref a1, .ref a2, .ref a3, .int 0, .int 0, .ref a4, .ref a5, .ref a6, .ref a7])), (a1, .inr (7, [.int 100, .int 100, .int 0, .ref a8, .ref a9, .int 0, .ref a10, .ref a11, .ref a12, .ref a13, .ref a14, .ref a15, .ref a16, .ref a17, .ref a18]))])) := by
  refine k_met (by decide) (Nat.le_of_ble_eq_true rfl) ?_
  intro p e s m below meth c A ls hC hr hlk hnm hN hK hA hP hD hS hl
  have hl : lv_has ls 3 [(0, .ref a0), (1, .int x0), (2, .int x1)] := hl
  obtain ⟨hx, hb, hml, hown, hts⟩ := id hC
  refine lv_aload_n hx hb dX9_canWeigh_0 rfl (lv_at hl 0 rfl) ?_
  refine lv_iload_n hx hb dX9_canWeigh_1 rfl (lv_at hl 1 rfl) ?_
  refine k_ci (wr := []) (k_rV hC hN hK hP hD (c30_X9_isPile l G cI cJ cB cZ a0 a1 a2 a3 a4 a5 a6 a7 a8 a9 a10 a11 a12 a13 a14 a15 a16 a17 a18 x0) [0, 1] rfl (by decide) mi_X9_isPile in_X9_isPile se_X9_isPile wm_X9_245 9 0 rfl rfl rfl hl.1 rfl rfl (Nat.le_of_ble_eq_true rfl) ⟨(Nat.le_of_ble_eq_true rfl), (Nat.le_of_ble_eq_true rfl)⟩ dX9_canWeigh_2 ⟨(Nat.le_of_ble_eq_true rfl), (Nat.le_of_ble_eq_true rfl)⟩) hP hD hS hA [0, 1] [] rfl rfl (by decide) (by decide) (fun r1 u1 H locs hp hP hD hS => ?_)
  have hP : va_P G cl [(a0, .inr (9, [.ref a1, .ref a2, .ref a3, .int 0, .int 0, .ref a4, .ref a5, .ref a6, .ref a7])), (a1, .inr (7, [.int 100, .int 100, .int 0, .ref a8, .ref a9, .int 0, .ref a10, .ref a11, .ref a12, .ref a13, .ref a14, .ref a15, .ref a16, .ref a17, .ref a18]))] H := hP
  have hD : va_D A [(a0, .inr (9, [.ref a1, .ref a2, .ref a3, .int 0, .int 0, .ref a4, .ref a5, .ref a6, .ref a7])), (a1, .inr (7, [.int 100, .int 100, .int 0, .ref a8, .ref a9, .int 0, .ref a10, .ref a11, .ref a12, .ref a13, .ref a14, .ref a15, .ref a16, .ref a17, .ref a18]))] := hD
  subst hp
  refine lv_if_eq (tgt := 26) hx hb dX9_canWeigh_5 (by decide) (fun _ => ?_) (fun c_ => absurd (by decide +kernel) c_)
  refine lv_iconst (v := 0) hx hb dX9_canWeigh_26 (by decide) ?_
  exact k_zret hC hr hlk hK hP hD hS () [0, 1] rfl (by decide) rfl rfl (Nat.le_of_ble_eq_true rfl) (Nat.le_of_ble_eq_true rfl) dX9_canWeigh_27
theorem dX9_weighed_0 : decode cX9_weighed 0 = .ok (.aload_n 0, 1) := by decide +kernel
theorem dX9_weighed_1 : decode cX9_weighed 1 = .ok (.iload_n 1, 1) := by decide +kernel
theorem dX9_weighed_2 : decode cX9_weighed 2 = .ok (.iload_n 2, 1) := by decide +kernel
theorem dX9_weighed_3 : decode cX9_weighed 3 = .ok (.invokevirtual 99, 3) := by decide +kernel
set_option maxRecDepth 100000 in
theorem wm_X9_99 : Cond.methodLink RX9 99 yX9_canWeigh ∈ gw := gm (List.mem_of_getElem? (i := 742) (by decide +kernel)) rfl
set_option maxRecDepth 100000 in
theorem mi_X9_canWeigh : MI yX9_canWeigh cX9_canWeigh 3 (some .boolean) 2 := ⟨gm (List.mem_of_getElem? (i := 745) rfl) rfl, gm (List.mem_of_getElem? (i := 112) (by decide +kernel)) rfl, by decide, by decide, by decide +kernel⟩
set_option maxRecDepth 100000 in
theorem in_X9_canWeigh : Cond.instanceMethod yX9_canWeigh ∈ gw := gm (List.mem_of_getElem? (i := 744) (by decide +kernel)) rfl
set_option maxRecDepth 100000 in
theorem se_X9_canWeigh : Cond.selects yX9_canWeigh.cls yX9_canWeigh yX9_canWeigh ∈ gw := gm (List.mem_of_getElem? (i := 19) (by decide +kernel)) rfl
theorem dX9_weighed_6 : decode cX9_weighed 6 = .ok (.ifCond .eq 18, 3) := by decide +kernel
theorem dX9_weighed_24 : decode cX9_weighed 24 = .ok (.iconst (-1), 1) := by decide +kernel
theorem dX9_weighed_25 : decode cX9_weighed 25 = .ok (.ireturn, 1) := by decide +kernel
set_option maxHeartbeats 4000000 in
set_option maxRecDepth 100000 in
theorem c32_X9_weighed (l : Launch) (G : va_G) (cI cJ cB cZ : ClassId) (a0 a1 a2 a3 a4 a5 a6 a7 a8 a9 a10 a11 a12 a13 a14 a15 a16 a17 a18 : Nat) (x0 : Int32) (x1 : Int32) (x2 : Int32) (x3 : Int32) (x4 : Int32) : Con l G (TY cI cJ cB cZ) yX9_weighed cX9_weighed 7 (some .int) ({ frames := 2, cells := 0, slots := 0, locals := 43 } : Room) [.ref a0, .int x0, .int x1, .int x2, .int x3, .int x4] [(a0, .inr (9, [.ref a1, .ref a2, .ref a3, .int 0, .int 0, .ref a4, .ref a5, .ref a6, .ref a7])), (a1, .inr (7, [.int 100, .int 100, .int 0, .ref a8, .ref a9, .int 0, .ref a10, .ref a11, .ref a12, .ref a13, .ref a14, .ref a15, .ref a16, .ref a17, .ref a18]))] (QI G (TY cI cJ cB cZ) (fun (r : Int32) (u : Unit) => r = (-1)) (fun u : Unit => [])) := by
  refine k_met (by decide) (Nat.le_of_ble_eq_true rfl) ?_
  intro p e s m below meth c A ls hC hr hlk hnm hN hK hA hP hD hS hl
  have hl : lv_has ls 7 [(0, .ref a0), (1, .int x0), (2, .int x1), (3, .int x2), (4, .int x3), (5, .int x4)] := hl
  obtain ⟨hx, hb, hml, hown, hts⟩ := id hC
  refine lv_aload_n hx hb dX9_weighed_0 rfl (lv_at hl 0 rfl) ?_
  refine lv_iload_n hx hb dX9_weighed_1 rfl (lv_at hl 1 rfl) ?_
  refine lv_iload_n hx hb dX9_weighed_2 rfl (lv_at hl 2 rfl) ?_
  refine k_ci (wr := []) (k_rV hC hN hK hP hD (c31_X9_canWeigh l G cI cJ cB cZ a0 a1 a2 a3 a4 a5 a6 a7 a8 a9 a10 a11 a12 a13 a14 a15 a16 a17 a18 x0 x1) [0, 1] rfl (by decide) mi_X9_canWeigh in_X9_canWeigh se_X9_canWeigh wm_X9_99 9 0 rfl rfl rfl hl.1 rfl rfl (Nat.le_of_ble_eq_true rfl) ⟨(Nat.le_of_ble_eq_true rfl), (Nat.le_of_ble_eq_true rfl)⟩ dX9_weighed_3 ⟨(Nat.le_of_ble_eq_true rfl), (Nat.le_of_ble_eq_true rfl)⟩) hP hD hS hA [0, 1] [] rfl rfl (by decide) (by decide) (fun r1 u1 H locs hp hP hD hS => ?_)
  have hP : va_P G cl [(a0, .inr (9, [.ref a1, .ref a2, .ref a3, .int 0, .int 0, .ref a4, .ref a5, .ref a6, .ref a7])), (a1, .inr (7, [.int 100, .int 100, .int 0, .ref a8, .ref a9, .int 0, .ref a10, .ref a11, .ref a12, .ref a13, .ref a14, .ref a15, .ref a16, .ref a17, .ref a18]))] H := hP
  have hD : va_D A [(a0, .inr (9, [.ref a1, .ref a2, .ref a3, .int 0, .int 0, .ref a4, .ref a5, .ref a6, .ref a7])), (a1, .inr (7, [.int 100, .int 100, .int 0, .ref a8, .ref a9, .int 0, .ref a10, .ref a11, .ref a12, .ref a13, .ref a14, .ref a15, .ref a16, .ref a17, .ref a18]))] := hD
  subst hp
  refine lv_if_eq (tgt := 24) hx hb dX9_weighed_6 (by decide) (fun _ => ?_) (fun c_ => absurd (by decide +kernel) c_)
  refine lv_iconst (v := (-1)) hx hb dX9_weighed_24 (by decide) ?_
  exact k_iret hC hr hlk hK hP hD hS () [] rfl (by decide) rfl (Nat.le_of_ble_eq_true rfl) (Nat.le_of_ble_eq_true rfl) dX9_weighed_25
theorem dX8_setUntold_0 : decode cX8_setUntold 0 = .ok (.iload_n 1, 1) := by decide +kernel
theorem dX8_setUntold_1 : decode cX8_setUntold 1 = .ok (.ifCond .lt 20, 3) := by decide +kernel
theorem dX8_setUntold_21 : decode cX8_setUntold 21 = .ok (.iconst 0, 1) := by decide +kernel
theorem dX8_setUntold_22 : decode cX8_setUntold 22 = .ok (.ireturn, 1) := by decide +kernel
theorem dX8_setUntold_4 : decode cX8_setUntold 4 = .ok (.iload_n 1, 1) := by decide +kernel
theorem dX8_setUntold_5 : decode cX8_setUntold 5 = .ok (.aload_n 0, 1) := by decide +kernel
theorem dX8_setUntold_6 : decode cX8_setUntold 6 = .ok (.getfield 9, 3) := by decide +kernel
theorem dX8_setUntold_9 : decode cX8_setUntold 9 = .ok (.if_icmp .ge 12, 3) := by decide +kernel
set_option maxHeartbeats 4000000 in
set_option maxRecDepth 100000 in
theorem c33_X8_setUntold (l : Launch) (G : va_G) (cI cJ cB cZ : ClassId) (a0 a1 a2 a3 a4 a5 a6 a7 : Nat) (x0 : Int32) : Con l G (TY cI cJ cB cZ) yX8_setUntold cX8_setUntold 3 (some .boolean) ({ frames := 0, cells := 0, slots := 0, locals := 0 } : Room) [.ref a0, .int x0, .int 0] [(a0, .inr (8, [.ref a1, .ref a2, .ref a3, .ref a4, .ref a5, .ref a6, .ref a7, .int 0]))] (QI G (TY cI cJ cB cZ) (fun (r : Int32) (u : Unit) => r = 0) (fun u : Unit => [(a0, .inr (8, [.ref a1, .ref a2, .ref a3, .ref a4, .ref a5, .ref a6, .ref a7, .int 0]))])) := by
  refine k_met (by decide) (Nat.le_of_ble_eq_true rfl) ?_
  intro p e s m below meth c A ls hC hr hlk hnm hN hK hA hP hD hS hl
  have hl : lv_has ls 3 [(0, .ref a0), (1, .int x0), (2, .int 0)] := hl
  obtain ⟨hx, hb, hml, hown, hts⟩ := id hC
  refine lv_iload_n hx hb dX8_setUntold_0 rfl (lv_at hl 1 rfl) ?_
  refine lv_if_lt (tgt := 21) hx hb dX8_setUntold_1 (by decide) (fun c_1 => ?_) (fun c_1 => ?_)
  · have d_1 : x0.toInt < 0 := (fa_lt _ _).mp c_1
    refine lv_iconst (v := 0) hx hb dX8_setUntold_21 (by decide) ?_
    exact k_zret hC hr hlk hK hP hD hS () [0] rfl (by decide) rfl rfl (Nat.le_of_ble_eq_true rfl) (Nat.le_of_ble_eq_true rfl) dX8_setUntold_22
  · have d_1 : 0 ≤ x0.toInt := fa_nlt c_1
    refine lv_iload_n hx hb dX8_setUntold_4 rfl (lv_at hl 1 rfl) ?_
    refine lv_aload_n hx hb dX8_setUntold_5 rfl (lv_at hl 0 rfl) ?_
    refine k_get hC hK hP iX8 0 7 wf_X8_9 rfl (by decide) rfl rfl dX8_setUntold_6 ?_
    refine lv_icmp_ge (tgt := 21) hx hb dX8_setUntold_9 (by decide) (fun c_2 => ?_) (fun c_2 => by have d_2 : x0.toInt < 0 := fa_nle c_2; omega)
    have d_2 : 0 ≤ x0.toInt := (fa_le _ _).mp c_2
    refine lv_iconst (v := 0) hx hb dX8_setUntold_21 (by decide) ?_
    exact k_zret hC hr hlk hK hP hD hS () [0] rfl (by decide) rfl rfl (Nat.le_of_ble_eq_true rfl) (Nat.le_of_ble_eq_true rfl) dX8_setUntold_22
theorem dX9_untell_0 : decode cX9_untell 0 = .ok (.aload_n 0, 1) := by decide +kernel
theorem dX9_untell_1 : decode cX9_untell 1 = .ok (.getfield 28, 3) := by decide +kernel
theorem dX9_untell_4 : decode cX9_untell 4 = .ok (.iload_n 1, 1) := by decide +kernel
theorem dX9_untell_5 : decode cX9_untell 5 = .ok (.aload_n 0, 1) := by decide +kernel
theorem dX9_untell_6 : decode cX9_untell 6 = .ok (.getfield 32, 3) := by decide +kernel
theorem dX9_untell_9 : decode cX9_untell 9 = .ok (.invokevirtual 118, 3) := by decide +kernel
set_option maxRecDepth 100000 in
theorem wm_X9_118 : Cond.methodLink RX9 118 yX8_setUntold ∈ gw := gm (List.mem_of_getElem? (i := 765) (by decide +kernel)) rfl
set_option maxRecDepth 100000 in
theorem mi_X8_setUntold : MI yX8_setUntold cX8_setUntold 3 (some .boolean) 2 := ⟨gm (List.mem_of_getElem? (i := 768) rfl) rfl, gm (List.mem_of_getElem? (i := 114) (by decide +kernel)) rfl, by decide, by decide, by decide +kernel⟩
set_option maxRecDepth 100000 in
theorem in_X8_setUntold : Cond.instanceMethod yX8_setUntold ∈ gw := gm (List.mem_of_getElem? (i := 766) (by decide +kernel)) rfl
set_option maxRecDepth 100000 in
theorem se_X8_setUntold : Cond.selects yX8_setUntold.cls yX8_setUntold yX8_setUntold ∈ gw := gm (List.mem_of_getElem? (i := 767) (by decide +kernel)) rfl
theorem dX9_untell_12 : decode cX9_untell 12 = .ok (.ireturn, 1) := by decide +kernel
set_option maxHeartbeats 4000000 in
set_option maxRecDepth 100000 in
theorem c34_X9_untell (l : Launch) (G : va_G) (cI cJ cB cZ : ClassId) (a0 a1 a2 a3 a4 a5 a6 a7 a8 a9 a10 a11 a12 a13 a14 : Nat) (x0 : Int32) : Con l G (TY cI cJ cB cZ) yX9_untell cX9_untell 2 (some .boolean) ({ frames := 1, cells := 0, slots := 0, locals := 22 } : Room) [.ref a0, .int x0] [(a0, .inr (9, [.ref a1, .ref a2, .ref a3, .int 0, .int 0, .ref a4, .ref a5, .ref a6, .ref a7])), (a3, .inr (8, [.ref a8, .ref a9, .ref a10, .ref a11, .ref a12, .ref a13, .ref a14, .int 0]))] (QI G (TY cI cJ cB cZ) (fun (r : Int32) (u : Unit) => r = 0) (fun u : Unit => [])) := by
  refine k_met (by decide) (Nat.le_of_ble_eq_true rfl) ?_
  intro p e s m below meth c A ls hC hr hlk hnm hN hK hA hP hD hS hl
  have hl : lv_has ls 2 [(0, .ref a0), (1, .int x0)] := hl
  obtain ⟨hx, hb, hml, hown, hts⟩ := id hC
  refine lv_aload_n hx hb dX9_untell_0 rfl (lv_at hl 0 rfl) ?_
  refine k_get hC hK hP iX9 0 2 wf_X9_28 rfl (by decide) rfl rfl dX9_untell_1 ?_
  refine lv_iload_n hx hb dX9_untell_4 rfl (lv_at hl 1 rfl) ?_
  refine lv_aload_n hx hb dX9_untell_5 rfl (lv_at hl 0 rfl) ?_
  refine k_get hC hK hP iX9 0 3 wf_X9_32 rfl (by decide) rfl rfl dX9_untell_6 ?_
  refine k_ci (wr := [(a0, .inr (9, [.ref a1, .ref a2, .ref a3, .int 0, .int 0, .ref a4, .ref a5, .ref a6, .ref a7]))]) (k_rV hC hN hK hP hD (c33_X8_setUntold l G cI cJ cB cZ a3 a8 a9 a10 a11 a12 a13 a14 x0) [1] rfl (by decide) mi_X8_setUntold in_X8_setUntold se_X8_setUntold wm_X9_118 8 1 rfl rfl rfl hl.1 rfl rfl (Nat.le_of_ble_eq_true rfl) ⟨(Nat.le_of_ble_eq_true rfl), (Nat.le_of_ble_eq_true rfl)⟩ dX9_untell_9 ⟨(Nat.le_of_ble_eq_true rfl), (Nat.le_of_ble_eq_true rfl)⟩) hP hD hS hA [1] [0] rfl rfl (by decide) (by decide) (fun r1 u1 H locs hp hP hD hS => ?_)
  have hP : va_P G cl [(a0, .inr (9, [.ref a1, .ref a2, .ref a3, .int 0, .int 0, .ref a4, .ref a5, .ref a6, .ref a7])), (a3, .inr (8, [.ref a8, .ref a9, .ref a10, .ref a11, .ref a12, .ref a13, .ref a14, .int 0]))] H := hP
  have hD : va_D A [(a0, .inr (9, [.ref a1, .ref a2, .ref a3, .int 0, .int 0, .ref a4, .ref a5, .ref a6, .ref a7])), (a3, .inr (8, [.ref a8, .ref a9, .ref a10, .ref a11, .ref a12, .ref a13, .ref a14, .int 0]))] := hD
  subst hp
  exact k_zret hC hr hlk hK hP hD hS () [] rfl (by decide) rfl rfl (Nat.le_of_ble_eq_true rfl) (Nat.le_of_ble_eq_true rfl) dX9_untell_12
theorem dX9_later_0 : decode cX9_later 0 = .ok (.iload_n 1, 1) := by decide +kernel
theorem dX9_later_1 : decode cX9_later 1 = .ok (.ifCond .lt 21, 3) := by decide +kernel
theorem dX9_later_22 : decode cX9_later 22 = .ok (.iconst (-1), 1) := by decide +kernel
theorem dX9_later_23 : decode cX9_later 23 = .ok (.ireturn, 1) := by decide +kernel
theorem dX9_later_4 : decode cX9_later 4 = .ok (.iload_n 1, 1) := by decide +kernel
theorem dX9_later_5 : decode cX9_later 5 = .ok (.sipush 1000, 3) := by decide +kernel
theorem dX9_later_8 : decode cX9_later 8 = .ok (.if_icmp .gt 14, 3) := by decide +kernel
theorem dX9_later_11 : decode cX9_later 11 = .ok (.aload_n 0, 1) := by decide +kernel
theorem dX9_later_12 : decode cX9_later 12 = .ok (.getfield 32, 3) := by decide +kernel
theorem dX9_later_15 : decode cX9_later 15 = .ok (.iload_n 1, 1) := by decide +kernel
theorem dX9_later_16 : decode cX9_later 16 = .ok (.iadd, 1) := by decide +kernel
theorem dX9_later_17 : decode cX9_later 17 = .ok (.ldc 121, 2) := by decide +kernel
set_option maxRecDepth 100000 in
theorem kc_X9_121 : Cond.constant RX9 121 100000 ∈ gw := gm (List.mem_of_getElem? (i := 773) (by decide +kernel)) rfl
theorem dX9_later_19 : decode cX9_later 19 = .ok (.if_icmp .le 5, 3) := by decide +kernel
theorem dX9_later_24 : decode cX9_later 24 = .ok (.aload_n 0, 1) := by decide +kernel
theorem dX9_later_25 : decode cX9_later 25 = .ok (.dup, 1) := by decide +kernel
theorem dX9_later_26 : decode cX9_later 26 = .ok (.getfield 32, 3) := by decide +kernel
theorem dX9_later_29 : decode cX9_later 29 = .ok (.iload_n 1, 1) := by decide +kernel
theorem dX9_later_30 : decode cX9_later 30 = .ok (.iadd, 1) := by decide +kernel
theorem dX9_later_31 : decode cX9_later 31 = .ok (.putfield 32, 3) := by decide +kernel
theorem dX9_later_34 : decode cX9_later 34 = .ok (.aload_n 0, 1) := by decide +kernel
theorem dX9_later_35 : decode cX9_later 35 = .ok (.getfield 32, 3) := by decide +kernel
theorem dX9_later_38 : decode cX9_later 38 = .ok (.ireturn, 1) := by decide +kernel
set_option maxHeartbeats 4000000 in
set_option maxRecDepth 100000 in
theorem c35_X9_later (l : Launch) (G : va_G) (cI cJ cB cZ : ClassId) (a0 a1 a2 a3 a4 a5 a6 a7 : Nat) (x0 : Int32) : Con l G (TY cI cJ cB cZ) yX9_later cX9_later 2 (some .int) ({ frames := 0, cells := 0, slots := 0, locals := 0 } : Room) [.ref a0, .int x0] [(a0, .inr (9, [.ref a1, .ref a2, .ref a3, .int 0, .int 0, .ref a4, .ref a5, .ref a6, .ref a7]))] (QI G (TY cI cJ cB cZ) (fun (r : Int32) (u : Unit) => r = sp_later x0) (fun u : Unit => [])) := by
  refine k_met (by decide) (Nat.le_of_ble_eq_true rfl) ?_
  intro p e s m below meth c A ls hC hr hlk hnm hN hK hA hP hD hS hl
  have hl : lv_has ls 2 [(0, .ref a0), (1, .int x0)] := hl
  obtain ⟨hx, hb, hml, hown, hts⟩ := id hC
  refine lv_iload_n hx hb dX9_later_0 rfl (lv_at hl 1 rfl) ?_
  refine lv_if_lt (tgt := 22) hx hb dX9_later_1 (by decide) (fun c_1 => ?_) (fun c_1 => ?_)
  · have d_1 : x0.toInt < 0 := (fa_lt _ _).mp c_1
    refine lv_iconst (v := (-1)) hx hb dX9_later_22 (by decide) ?_
    exact k_iret hC hr hlk hK hP hD hS () [] rfl (by decide) (by first | decide | (unfold sp_later; rw [if_neg (by omega)]) | (unfold sp_later; rw [if_pos (by omega)])) (Nat.le_of_ble_eq_true rfl) (Nat.le_of_ble_eq_true rfl) dX9_later_23
  · have d_1 : 0 ≤ x0.toInt := fa_nlt c_1
    refine lv_iload_n hx hb dX9_later_4 rfl (lv_at hl 1 rfl) ?_
    refine lv_sipush (v := 1000) hx hb dX9_later_5 (by decide) ?_
    refine lv_icmp_gt (tgt := 22) hx hb dX9_later_8 (by decide) (fun c_2 => ?_) (fun c_2 => ?_)
    · have d_2 : 1000 < x0.toInt := (fa_lt _ _).mp c_2
      refine lv_iconst (v := (-1)) hx hb dX9_later_22 (by decide) ?_
      exact k_iret hC hr hlk hK hP hD hS () [] rfl (by decide) (by first | decide | (unfold sp_later; rw [if_neg (by omega)]) | (unfold sp_later; rw [if_pos (by omega)])) (Nat.le_of_ble_eq_true rfl) (Nat.le_of_ble_eq_true rfl) dX9_later_23
    · have d_2 : x0.toInt ≤ 1000 := fa_nlt c_2
      refine lv_aload_n hx hb dX9_later_11 rfl (lv_at hl 0 rfl) ?_
      refine k_get hC hK hP iX9 0 3 wf_X9_32 rfl (by decide) rfl rfl dX9_later_12 ?_
      refine lv_iload_n hx hb dX9_later_15 rfl (lv_at hl 1 rfl) ?_
      refine lv_iadd hx hb dX9_later_16 ?_
      refine k_i x0 (Int32.zero_add _) ?_
      refine lv_ldc (v := 100000) hx hb hown (hts _ kc_X9_121) dX9_later_17 ?_
      refine lv_icmp_le (tgt := 24) hx hb dX9_later_19 (by decide) (fun c_3 => ?_) (fun c_3 => by have d_3 : 100000 < x0.toInt := fa_nle c_3; omega)
      have d_3 : x0.toInt ≤ 100000 := (fa_le _ _).mp c_3
      refine lv_aload_n hx hb dX9_later_24 rfl (lv_at hl 0 rfl) ?_
      refine lv_dup hx hb dX9_later_25 rfl ?_
      refine k_get hC hK hP iX9 0 3 wf_X9_32 rfl (by decide) rfl rfl dX9_later_26 ?_
      refine lv_iload_n hx hb dX9_later_29 rfl (lv_at hl 1 rfl) ?_
      refine lv_iadd hx hb dX9_later_30 ?_
      refine k_i x0 (Int32.zero_add _) ?_
      refine k_put hC hK hP hD hS iX9 tyX9_ok nmX9 0 3 wf_X9_32 rfl (by decide) rfl rfl rfl rfl (Nat.le_of_ble_eq_true rfl) dX9_later_31 (fun H locs hP hD hS => ?_)
      have hP : va_P G cl [(a0, .inr (9, [.ref a1, .ref a2, .ref a3, .int x0, .int 0, .ref a4, .ref a5, .ref a6, .ref a7]))] H := hP
      have hD : va_D A [(a0, .inr (9, [.ref a1, .ref a2, .ref a3, .int x0, .int 0, .ref a4, .ref a5, .ref a6, .ref a7]))] := hD
      refine lv_aload_n hx hb dX9_later_34 rfl (lv_at hl 0 rfl) ?_
      refine k_get hC hK hP iX9 0 3 wf_X9_32 rfl (by decide) rfl rfl dX9_later_35 ?_
      exact k_iret hC hr hlk hK hP hD hS () [] rfl (by decide) (by first | decide | (unfold sp_later; rw [if_neg (by omega)]) | (unfold sp_later; rw [if_pos (by omega)])) (Nat.le_of_ble_eq_true rfl) (Nat.le_of_ble_eq_true rfl) dX9_later_38
theorem dX9_isTrader_0 : decode cX9_isTrader 0 = .ok (.iload_n 0, 1) := by decide +kernel
theorem dX9_isTrader_1 : decode cX9_isTrader 1 = .ok (.ifCond .lt 13, 3) := by decide +kernel
theorem dX9_isTrader_14 : decode cX9_isTrader 14 = .ok (.iconst 0, 1) := by decide +kernel
theorem dX9_isTrader_15 : decode cX9_isTrader 15 = .ok (.ireturn, 1) := by decide +kernel
theorem dX9_isTrader_4 : decode cX9_isTrader 4 = .ok (.iload_n 0, 1) := by decide +kernel
theorem dX9_isTrader_5 : decode cX9_isTrader 5 = .ok (.bipush 10, 2) := by decide +kernel
theorem dX9_isTrader_7 : decode cX9_isTrader 7 = .ok (.if_icmp .ge 7, 3) := by decide +kernel
theorem dX9_isTrader_10 : decode cX9_isTrader 10 = .ok (.iconst 1, 1) := by decide +kernel
theorem dX9_isTrader_11 : decode cX9_isTrader 11 = .ok (.goto 4, 3) := by decide +kernel
set_option maxHeartbeats 4000000 in
set_option maxRecDepth 100000 in
theorem c36_X9_isTrader (l : Launch) (G : va_G) (cI cJ cB cZ : ClassId) (x0 : Int32) : Con l G (TY cI cJ cB cZ) yX9_isTrader cX9_isTrader 1 (some .boolean) ({ frames := 0, cells := 0, slots := 0, locals := 0 } : Room) [.int x0] [] (QI G (TY cI cJ cB cZ) (fun (r : Int32) (u : Unit) => (r = 1 ∧ (0 ≤ x0.toInt ∧ x0.toInt ≤ 9)) ∨ (r = 0 ∧ ¬ (0 ≤ x0.toInt ∧ x0.toInt ≤ 9))) (fun u : Unit => [])) := by
  refine k_met (by decide) (Nat.le_of_ble_eq_true rfl) ?_
  intro p e s m below meth c A ls hC hr hlk hnm hN hK hA hP hD hS hl
  have hl : lv_has ls 1 [(0, .int x0)] := hl
  obtain ⟨hx, hb, hml, hown, hts⟩ := id hC
  refine lv_iload_n hx hb dX9_isTrader_0 rfl (lv_at hl 0 rfl) ?_
  refine lv_if_lt (tgt := 14) hx hb dX9_isTrader_1 (by decide) (fun c_1 => ?_) (fun c_1 => ?_)
  · have d_1 : x0.toInt < 0 := (fa_lt _ _).mp c_1
    refine lv_iconst (v := 0) hx hb dX9_isTrader_14 (by decide) ?_
    exact k_zret hC hr hlk hK hP hD hS () [] rfl (by decide) rfl (Or.inr ⟨rfl, by omega⟩) (Nat.le_of_ble_eq_true rfl) (Nat.le_of_ble_eq_true rfl) dX9_isTrader_15
  · have d_1 : 0 ≤ x0.toInt := fa_nlt c_1
    refine lv_iload_n hx hb dX9_isTrader_4 rfl (lv_at hl 0 rfl) ?_
    refine lv_bipush (v := 10) hx hb dX9_isTrader_5 (by decide) ?_
    refine lv_icmp_ge (tgt := 14) hx hb dX9_isTrader_7 (by decide) (fun c_2 => ?_) (fun c_2 => ?_)
    · have d_2 : 10 ≤ x0.toInt := (fa_le _ _).mp c_2
      refine lv_iconst (v := 0) hx hb dX9_isTrader_14 (by decide) ?_
      exact k_zret hC hr hlk hK hP hD hS () [] rfl (by decide) rfl (Or.inr ⟨rfl, by omega⟩) (Nat.le_of_ble_eq_true rfl) (Nat.le_of_ble_eq_true rfl) dX9_isTrader_15
    · have d_2 : x0.toInt < 10 := fa_nle c_2
      refine lv_iconst (v := 1) hx hb dX9_isTrader_10 (by decide) ?_
      refine lv_goto (tgt := 15) hx hb dX9_isTrader_11 (by decide) ?_
      exact k_zret hC hr hlk hK hP hD hS () [] rfl (by decide) rfl (Or.inl ⟨rfl, by omega⟩) (Nat.le_of_ble_eq_true rfl) (Nat.le_of_ble_eq_true rfl) dX9_isTrader_15
theorem dX9_isDoubted_0 : decode cX9_isDoubted 0 = .ok (.aload_n 0, 1) := by decide +kernel
theorem dX9_isDoubted_1 : decode cX9_isDoubted 1 = .ok (.getfield 36, 3) := by decide +kernel
theorem dX9_isDoubted_4 : decode cX9_isDoubted 4 = .ok (.iload_n 1, 1) := by decide +kernel
theorem dX9_isDoubted_5 : decode cX9_isDoubted 5 = .ok (.ishr, 1) := by decide +kernel
theorem dX9_isDoubted_6 : decode cX9_isDoubted 6 = .ok (.iconst 1, 1) := by decide +kernel
theorem dX9_isDoubted_7 : decode cX9_isDoubted 7 = .ok (.iand, 1) := by decide +kernel
theorem dX9_isDoubted_8 : decode cX9_isDoubted 8 = .ok (.ifCond .eq 7, 3) := by decide +kernel
theorem dX9_isDoubted_15 : decode cX9_isDoubted 15 = .ok (.iconst 0, 1) := by decide +kernel
theorem dX9_isDoubted_16 : decode cX9_isDoubted 16 = .ok (.ireturn, 1) := by decide +kernel
set_option maxHeartbeats 4000000 in
set_option maxRecDepth 100000 in
theorem c37_X9_isDoubted (l : Launch) (G : va_G) (cI cJ cB cZ : ClassId) (a0 a1 a2 a3 a4 a5 a6 a7 : Nat) : Con l G (TY cI cJ cB cZ) yX9_isDoubted cX9_isDoubted 2 (some .boolean) ({ frames := 0, cells := 0, slots := 0, locals := 0 } : Room) [.ref a0, .int 0] [(a0, .inr (9, [.ref a1, .ref a2, .ref a3, .int 0, .int 0, .ref a4, .ref a5, .ref a6, .ref a7]))] (QI G (TY cI cJ cB cZ) (fun (r : Int32) (u : Unit) => r = 0) (fun u : Unit => [(a0, .inr (9, [.ref a1, .ref a2, .ref a3, .int 0, .int 0, .ref a4, .ref a5, .ref a6, .ref a7]))])) := by
  refine k_met (by decide) (Nat.le_of_ble_eq_true rfl) ?_
  intro p e s m below meth c A ls hC hr hlk hnm hN hK hA hP hD hS hl
  have hl : lv_has ls 2 [(0, .ref a0), (1, .int 0)] := hl
  obtain ⟨hx, hb, hml, hown, hts⟩ := id hC
  refine lv_aload_n hx hb dX9_isDoubted_0 rfl (lv_at hl 0 rfl) ?_
  refine k_get hC hK hP iX9 0 4 wf_X9_36 rfl (by decide) rfl rfl dX9_isDoubted_1 ?_
  refine lv_iload_n hx hb dX9_isDoubted_4 rfl (lv_at hl 1 rfl) ?_
  refine lv_ishr hx hb dX9_isDoubted_5 ?_
  refine k_i 0 (by decide +kernel) ?_
  refine lv_iconst (v := 1) hx hb dX9_isDoubted_6 (by decide) ?_
  refine lv_iand hx hb dX9_isDoubted_7 ?_
  refine k_i 0 (by decide +kernel) ?_
  refine lv_if_eq (tgt := 15) hx hb dX9_isDoubted_8 (by decide) (fun _ => ?_) (fun c_ => absurd (by decide +kernel) c_)
  refine lv_iconst (v := 0) hx hb dX9_isDoubted_15 (by decide) ?_
  exact k_zret hC hr hlk hK hP hD hS () [0] rfl (by decide) rfl rfl (Nat.le_of_ble_eq_true rfl) (Nat.le_of_ble_eq_true rfl) dX9_isDoubted_16
set_option maxHeartbeats 4000000 in
set_option maxRecDepth 100000 in
theorem c38_X9_isDoubted (l : Launch) (G : va_G) (cI cJ cB cZ : ClassId) (a0 a1 a2 a3 a4 a5 a6 a7 : Nat) : Con l G (TY cI cJ cB cZ) yX9_isDoubted cX9_isDoubted 2 (some .boolean) ({ frames := 0, cells := 0, slots := 0, locals := 0 } : Room) [.ref a0, .int 1] [(a0, .inr (9, [.ref a1, .ref a2, .ref a3, .int 0, .int 0, .ref a4, .ref a5, .ref a6, .ref a7]))] (QI G (TY cI cJ cB cZ) (fun (r : Int32) (u : Unit) => r = 0) (fun u : Unit => [(a0, .inr (9, [.ref a1, .ref a2, .ref a3, .int 0, .int 0, .ref a4, .ref a5, .ref a6, .ref a7]))])) := by
  refine k_met (by decide) (Nat.le_of_ble_eq_true rfl) ?_
  intro p e s m below meth c A ls hC hr hlk hnm hN hK hA hP hD hS hl
  have hl : lv_has ls 2 [(0, .ref a0), (1, .int 1)] := hl
  obtain ⟨hx, hb, hml, hown, hts⟩ := id hC
  refine lv_aload_n hx hb dX9_isDoubted_0 rfl (lv_at hl 0 rfl) ?_
  refine k_get hC hK hP iX9 0 4 wf_X9_36 rfl (by decide) rfl rfl dX9_isDoubted_1 ?_
  refine lv_iload_n hx hb dX9_isDoubted_4 rfl (lv_at hl 1 rfl) ?_
  refine lv_ishr hx hb dX9_isDoubted_5 ?_
  refine k_i 0 (by decide +kernel) ?_
  refine lv_iconst (v := 1) hx hb dX9_isDoubted_6 (by decide) ?_
  refine lv_iand hx hb dX9_isDoubted_7 ?_
  refine k_i 0 (by decide +kernel) ?_
  refine lv_if_eq (tgt := 15) hx hb dX9_isDoubted_8 (by decide) (fun _ => ?_) (fun c_ => absurd (by decide +kernel) c_)
  refine lv_iconst (v := 0) hx hb dX9_isDoubted_15 (by decide) ?_
  exact k_zret hC hr hlk hK hP hD hS () [0] rfl (by decide) rfl rfl (Nat.le_of_ble_eq_true rfl) (Nat.le_of_ble_eq_true rfl) dX9_isDoubted_16
set_option maxHeartbeats 4000000 in
set_option maxRecDepth 100000 in
theorem c39_X9_isDoubted (l : Launch) (G : va_G) (cI cJ cB cZ : ClassId) (a0 a1 a2 a3 a4 a5 a6 a7 : Nat) : Con l G (TY cI cJ cB cZ) yX9_isDoubted cX9_isDoubted 2 (some .boolean) ({ frames := 0, cells := 0, slots := 0, locals := 0 } : Room) [.ref a0, .int 2] [(a0, .inr (9, [.ref a1, .ref a2, .ref a3, .int 0, .int 0, .ref a4, .ref a5, .ref a6, .ref a7]))] (QI G (TY cI cJ cB cZ) (fun (r : Int32) (u : Unit) => r = 0) (fun u : Unit => [(a0, .inr (9, [.ref a1, .ref a2, .ref a3, .int 0, .int 0, .ref a4, .ref a5, .ref a6, .ref a7]))])) := by
  refine k_met (by decide) (Nat.le_of_ble_eq_true rfl) ?_
  intro p e s m below meth c A ls hC hr hlk hnm hN hK hA hP hD hS hl
  have hl : lv_has ls 2 [(0, .ref a0), (1, .int 2)] := hl
  obtain ⟨hx, hb, hml, hown, hts⟩ := id hC
  refine lv_aload_n hx hb dX9_isDoubted_0 rfl (lv_at hl 0 rfl) ?_
  refine k_get hC hK hP iX9 0 4 wf_X9_36 rfl (by decide) rfl rfl dX9_isDoubted_1 ?_
  refine lv_iload_n hx hb dX9_isDoubted_4 rfl (lv_at hl 1 rfl) ?_
  refine lv_ishr hx hb dX9_isDoubted_5 ?_
  refine k_i 0 (by decide +kernel) ?_
  refine lv_iconst (v := 1) hx hb dX9_isDoubted_6 (by decide) ?_
  refine lv_iand hx hb dX9_isDoubted_7 ?_
  refine k_i 0 (by decide +kernel) ?_
  refine lv_if_eq (tgt := 15) hx hb dX9_isDoubted_8 (by decide) (fun _ => ?_) (fun c_ => absurd (by decide +kernel) c_)
  refine lv_iconst (v := 0) hx hb dX9_isDoubted_15 (by decide) ?_
  exact k_zret hC hr hlk hK hP hD hS () [0] rfl (by decide) rfl rfl (Nat.le_of_ble_eq_true rfl) (Nat.le_of_ble_eq_true rfl) dX9_isDoubted_16
set_option maxHeartbeats 4000000 in
set_option maxRecDepth 100000 in
theorem c40_X9_isDoubted (l : Launch) (G : va_G) (cI cJ cB cZ : ClassId) (a0 a1 a2 a3 a4 a5 a6 a7 : Nat) : Con l G (TY cI cJ cB cZ) yX9_isDoubted cX9_isDoubted 2 (some .boolean) ({ frames := 0, cells := 0, slots := 0, locals := 0 } : Room) [.ref a0, .int 3] [(a0, .inr (9, [.ref a1, .ref a2, .ref a3, .int 0, .int 0, .ref a4, .ref a5, .ref a6, .ref a7]))] (QI G (TY cI cJ cB cZ) (fun (r : Int32) (u : Unit) => r = 0) (fun u : Unit => [(a0, .inr (9, [.ref a1, .ref a2, .ref a3, .int 0, .int 0, .ref a4, .ref a5, .ref a6, .ref a7]))])) := by
  refine k_met (by decide) (Nat.le_of_ble_eq_true rfl) ?_
  intro p e s m below meth c A ls hC hr hlk hnm hN hK hA hP hD hS hl
  have hl : lv_has ls 2 [(0, .ref a0), (1, .int 3)] := hl
  obtain ⟨hx, hb, hml, hown, hts⟩ := id hC
  refine lv_aload_n hx hb dX9_isDoubted_0 rfl (lv_at hl 0 rfl) ?_
  refine k_get hC hK hP iX9 0 4 wf_X9_36 rfl (by decide) rfl rfl dX9_isDoubted_1 ?_
  refine lv_iload_n hx hb dX9_isDoubted_4 rfl (lv_at hl 1 rfl) ?_
  refine lv_ishr hx hb dX9_isDoubted_5 ?_
  refine k_i 0 (by decide +kernel) ?_
  refine lv_iconst (v := 1) hx hb dX9_isDoubted_6 (by decide) ?_
  refine lv_iand hx hb dX9_isDoubted_7 ?_
  refine k_i 0 (by decide +kernel) ?_
  refine lv_if_eq (tgt := 15) hx hb dX9_isDoubted_8 (by decide) (fun _ => ?_) (fun c_ => absurd (by decide +kernel) c_)
  refine lv_iconst (v := 0) hx hb dX9_isDoubted_15 (by decide) ?_
  exact k_zret hC hr hlk hK hP hD hS () [0] rfl (by decide) rfl rfl (Nat.le_of_ble_eq_true rfl) (Nat.le_of_ble_eq_true rfl) dX9_isDoubted_16
set_option maxHeartbeats 4000000 in
set_option maxRecDepth 100000 in
theorem c41_X9_isDoubted (l : Launch) (G : va_G) (cI cJ cB cZ : ClassId) (a0 a1 a2 a3 a4 a5 a6 a7 : Nat) : Con l G (TY cI cJ cB cZ) yX9_isDoubted cX9_isDoubted 2 (some .boolean) ({ frames := 0, cells := 0, slots := 0, locals := 0 } : Room) [.ref a0, .int 4] [(a0, .inr (9, [.ref a1, .ref a2, .ref a3, .int 0, .int 0, .ref a4, .ref a5, .ref a6, .ref a7]))] (QI G (TY cI cJ cB cZ) (fun (r : Int32) (u : Unit) => r = 0) (fun u : Unit => [(a0, .inr (9, [.ref a1, .ref a2, .ref a3, .int 0, .int 0, .ref a4, .ref a5, .ref a6, .ref a7]))])) := by
  refine k_met (by decide) (Nat.le_of_ble_eq_true rfl) ?_
  intro p e s m below meth c A ls hC hr hlk hnm hN hK hA hP hD hS hl
  have hl : lv_has ls 2 [(0, .ref a0), (1, .int 4)] := hl
  obtain ⟨hx, hb, hml, hown, hts⟩ := id hC
  refine lv_aload_n hx hb dX9_isDoubted_0 rfl (lv_at hl 0 rfl) ?_
  refine k_get hC hK hP iX9 0 4 wf_X9_36 rfl (by decide) rfl rfl dX9_isDoubted_1 ?_
  refine lv_iload_n hx hb dX9_isDoubted_4 rfl (lv_at hl 1 rfl) ?_
  refine lv_ishr hx hb dX9_isDoubted_5 ?_
  refine k_i 0 (by decide +kernel) ?_
  refine lv_iconst (v := 1) hx hb dX9_isDoubted_6 (by decide) ?_
  refine lv_iand hx hb dX9_isDoubted_7 ?_
  refine k_i 0 (by decide +kernel) ?_
  refine lv_if_eq (tgt := 15) hx hb dX9_isDoubted_8 (by decide) (fun _ => ?_) (fun c_ => absurd (by decide +kernel) c_)
  refine lv_iconst (v := 0) hx hb dX9_isDoubted_15 (by decide) ?_
  exact k_zret hC hr hlk hK hP hD hS () [0] rfl (by decide) rfl rfl (Nat.le_of_ble_eq_true rfl) (Nat.le_of_ble_eq_true rfl) dX9_isDoubted_16
set_option maxHeartbeats 4000000 in
set_option maxRecDepth 100000 in
theorem c42_X9_isDoubted (l : Launch) (G : va_G) (cI cJ cB cZ : ClassId) (a0 a1 a2 a3 a4 a5 a6 a7 : Nat) : Con l G (TY cI cJ cB cZ) yX9_isDoubted cX9_isDoubted 2 (some .boolean) ({ frames := 0, cells := 0, slots := 0, locals := 0 } : Room) [.ref a0, .int 5] [(a0, .inr (9, [.ref a1, .ref a2, .ref a3, .int 0, .int 0, .ref a4, .ref a5, .ref a6, .ref a7]))] (QI G (TY cI cJ cB cZ) (fun (r : Int32) (u : Unit) => r = 0) (fun u : Unit => [(a0, .inr (9, [.ref a1, .ref a2, .ref a3, .int 0, .int 0, .ref a4, .ref a5, .ref a6, .ref a7]))])) := by
  refine k_met (by decide) (Nat.le_of_ble_eq_true rfl) ?_
  intro p e s m below meth c A ls hC hr hlk hnm hN hK hA hP hD hS hl
  have hl : lv_has ls 2 [(0, .ref a0), (1, .int 5)] := hl
  obtain ⟨hx, hb, hml, hown, hts⟩ := id hC
  refine lv_aload_n hx hb dX9_isDoubted_0 rfl (lv_at hl 0 rfl) ?_
  refine k_get hC hK hP iX9 0 4 wf_X9_36 rfl (by decide) rfl rfl dX9_isDoubted_1 ?_
  refine lv_iload_n hx hb dX9_isDoubted_4 rfl (lv_at hl 1 rfl) ?_
  refine lv_ishr hx hb dX9_isDoubted_5 ?_
  refine k_i 0 (by decide +kernel) ?_
  refine lv_iconst (v := 1) hx hb dX9_isDoubted_6 (by decide) ?_
  refine lv_iand hx hb dX9_isDoubted_7 ?_
  refine k_i 0 (by decide +kernel) ?_
  refine lv_if_eq (tgt := 15) hx hb dX9_isDoubted_8 (by decide) (fun _ => ?_) (fun c_ => absurd (by decide +kernel) c_)
  refine lv_iconst (v := 0) hx hb dX9_isDoubted_15 (by decide) ?_
  exact k_zret hC hr hlk hK hP hD hS () [0] rfl (by decide) rfl rfl (Nat.le_of_ble_eq_true rfl) (Nat.le_of_ble_eq_true rfl) dX9_isDoubted_16
set_option maxHeartbeats 4000000 in
set_option maxRecDepth 100000 in
theorem c43_X9_isDoubted (l : Launch) (G : va_G) (cI cJ cB cZ : ClassId) (a0 a1 a2 a3 a4 a5 a6 a7 : Nat) : Con l G (TY cI cJ cB cZ) yX9_isDoubted cX9_isDoubted 2 (some .boolean) ({ frames := 0, cells := 0, slots := 0, locals := 0 } : Room) [.ref a0, .int 6] [(a0, .inr (9, [.ref a1, .ref a2, .ref a3, .int 0, .int 0, .ref a4, .ref a5, .ref a6, .ref a7]))] (QI G (TY cI cJ cB cZ) (fun (r : Int32) (u : Unit) => r = 0) (fun u : Unit => [(a0, .inr (9, [.ref a1, .ref a2, .ref a3, .int 0, .int 0, .ref a4, .ref a5, .ref a6, .ref a7]))])) := by
  refine k_met (by decide) (Nat.le_of_ble_eq_true rfl) ?_
  intro p e s m below meth c A ls hC hr hlk hnm hN hK hA hP hD hS hl
  have hl : lv_has ls 2 [(0, .ref a0), (1, .int 6)] := hl
  obtain ⟨hx, hb, hml, hown, hts⟩ := id hC
  refine lv_aload_n hx hb dX9_isDoubted_0 rfl (lv_at hl 0 rfl) ?_
  refine k_get hC hK hP iX9 0 4 wf_X9_36 rfl (by decide) rfl rfl dX9_isDoubted_1 ?_
  refine lv_iload_n hx hb dX9_isDoubted_4 rfl (lv_at hl 1 rfl) ?_
  refine lv_ishr hx hb dX9_isDoubted_5 ?_
  refine k_i 0 (by decide +kernel) ?_
  refine lv_iconst (v := 1) hx hb dX9_isDoubted_6 (by decide) ?_
  refine lv_iand hx hb dX9_isDoubted_7 ?_
  refine k_i 0 (by decide +kernel) ?_
  refine lv_if_eq (tgt := 15) hx hb dX9_isDoubted_8 (by decide) (fun _ => ?_) (fun c_ => absurd (by decide +kernel) c_)
  refine lv_iconst (v := 0) hx hb dX9_isDoubted_15 (by decide) ?_
  exact k_zret hC hr hlk hK hP hD hS () [0] rfl (by decide) rfl rfl (Nat.le_of_ble_eq_true rfl) (Nat.le_of_ble_eq_true rfl) dX9_isDoubted_16
set_option maxHeartbeats 4000000 in
set_option maxRecDepth 100000 in
theorem c44_X9_isDoubted (l : Launch) (G : va_G) (cI cJ cB cZ : ClassId) (a0 a1 a2 a3 a4 a5 a6 a7 : Nat) : Con l G (TY cI cJ cB cZ) yX9_isDoubted cX9_isDoubted 2 (some .boolean) ({ frames := 0, cells := 0, slots := 0, locals := 0 } : Room) [.ref a0, .int 7] [(a0, .inr (9, [.ref a1, .ref a2, .ref a3, .int 0, .int 0, .ref a4, .ref a5, .ref a6, .ref a7]))] (QI G (TY cI cJ cB cZ) (fun (r : Int32) (u : Unit) => r = 0) (fun u : Unit => [(a0, .inr (9, [.ref a1, .ref a2, .ref a3, .int 0, .int 0, .ref a4, .ref a5, .ref a6, .ref a7]))])) := by
  refine k_met (by decide) (Nat.le_of_ble_eq_true rfl) ?_
  intro p e s m below meth c A ls hC hr hlk hnm hN hK hA hP hD hS hl
  have hl : lv_has ls 2 [(0, .ref a0), (1, .int 7)] := hl
  obtain ⟨hx, hb, hml, hown, hts⟩ := id hC
  refine lv_aload_n hx hb dX9_isDoubted_0 rfl (lv_at hl 0 rfl) ?_
  refine k_get hC hK hP iX9 0 4 wf_X9_36 rfl (by decide) rfl rfl dX9_isDoubted_1 ?_
  refine lv_iload_n hx hb dX9_isDoubted_4 rfl (lv_at hl 1 rfl) ?_
  refine lv_ishr hx hb dX9_isDoubted_5 ?_
  refine k_i 0 (by decide +kernel) ?_
  refine lv_iconst (v := 1) hx hb dX9_isDoubted_6 (by decide) ?_
  refine lv_iand hx hb dX9_isDoubted_7 ?_
  refine k_i 0 (by decide +kernel) ?_
  refine lv_if_eq (tgt := 15) hx hb dX9_isDoubted_8 (by decide) (fun _ => ?_) (fun c_ => absurd (by decide +kernel) c_)
  refine lv_iconst (v := 0) hx hb dX9_isDoubted_15 (by decide) ?_
  exact k_zret hC hr hlk hK hP hD hS () [0] rfl (by decide) rfl rfl (Nat.le_of_ble_eq_true rfl) (Nat.le_of_ble_eq_true rfl) dX9_isDoubted_16
set_option maxHeartbeats 4000000 in
set_option maxRecDepth 100000 in
theorem c45_X9_isDoubted (l : Launch) (G : va_G) (cI cJ cB cZ : ClassId) (a0 a1 a2 a3 a4 a5 a6 a7 : Nat) : Con l G (TY cI cJ cB cZ) yX9_isDoubted cX9_isDoubted 2 (some .boolean) ({ frames := 0, cells := 0, slots := 0, locals := 0 } : Room) [.ref a0, .int 8] [(a0, .inr (9, [.ref a1, .ref a2, .ref a3, .int 0, .int 0, .ref a4, .ref a5, .ref a6, .ref a7]))] (QI G (TY cI cJ cB cZ) (fun (r : Int32) (u : Unit) => r = 0) (fun u : Unit => [(a0, .inr (9, [.ref a1, .ref a2, .ref a3, .int 0, .int 0, .ref a4, .ref a5, .ref a6, .ref a7]))])) := by
  refine k_met (by decide) (Nat.le_of_ble_eq_true rfl) ?_
  intro p e s m below meth c A ls hC hr hlk hnm hN hK hA hP hD hS hl
  have hl : lv_has ls 2 [(0, .ref a0), (1, .int 8)] := hl
  obtain ⟨hx, hb, hml, hown, hts⟩ := id hC
  refine lv_aload_n hx hb dX9_isDoubted_0 rfl (lv_at hl 0 rfl) ?_
  refine k_get hC hK hP iX9 0 4 wf_X9_36 rfl (by decide) rfl rfl dX9_isDoubted_1 ?_
  refine lv_iload_n hx hb dX9_isDoubted_4 rfl (lv_at hl 1 rfl) ?_
  refine lv_ishr hx hb dX9_isDoubted_5 ?_
  refine k_i 0 (by decide +kernel) ?_
  refine lv_iconst (v := 1) hx hb dX9_isDoubted_6 (by decide) ?_
  refine lv_iand hx hb dX9_isDoubted_7 ?_
  refine k_i 0 (by decide +kernel) ?_
  refine lv_if_eq (tgt := 15) hx hb dX9_isDoubted_8 (by decide) (fun _ => ?_) (fun c_ => absurd (by decide +kernel) c_)
  refine lv_iconst (v := 0) hx hb dX9_isDoubted_15 (by decide) ?_
  exact k_zret hC hr hlk hK hP hD hS () [0] rfl (by decide) rfl rfl (Nat.le_of_ble_eq_true rfl) (Nat.le_of_ble_eq_true rfl) dX9_isDoubted_16
set_option maxHeartbeats 4000000 in
set_option maxRecDepth 100000 in
theorem c46_X9_isDoubted (l : Launch) (G : va_G) (cI cJ cB cZ : ClassId) (a0 a1 a2 a3 a4 a5 a6 a7 : Nat) : Con l G (TY cI cJ cB cZ) yX9_isDoubted cX9_isDoubted 2 (some .boolean) ({ frames := 0, cells := 0, slots := 0, locals := 0 } : Room) [.ref a0, .int 9] [(a0, .inr (9, [.ref a1, .ref a2, .ref a3, .int 0, .int 0, .ref a4, .ref a5, .ref a6, .ref a7]))] (QI G (TY cI cJ cB cZ) (fun (r : Int32) (u : Unit) => r = 0) (fun u : Unit => [(a0, .inr (9, [.ref a1, .ref a2, .ref a3, .int 0, .int 0, .ref a4, .ref a5, .ref a6, .ref a7]))])) := by
  refine k_met (by decide) (Nat.le_of_ble_eq_true rfl) ?_
  intro p e s m below meth c A ls hC hr hlk hnm hN hK hA hP hD hS hl
  have hl : lv_has ls 2 [(0, .ref a0), (1, .int 9)] := hl
  obtain ⟨hx, hb, hml, hown, hts⟩ := id hC
  refine lv_aload_n hx hb dX9_isDoubted_0 rfl (lv_at hl 0 rfl) ?_
  refine k_get hC hK hP iX9 0 4 wf_X9_36 rfl (by decide) rfl rfl dX9_isDoubted_1 ?_
  refine lv_iload_n hx hb dX9_isDoubted_4 rfl (lv_at hl 1 rfl) ?_
  refine lv_ishr hx hb dX9_isDoubted_5 ?_
  refine k_i 0 (by decide +kernel) ?_
  refine lv_iconst (v := 1) hx hb dX9_isDoubted_6 (by decide) ?_
  refine lv_iand hx hb dX9_isDoubted_7 ?_
  refine k_i 0 (by decide +kernel) ?_
  refine lv_if_eq (tgt := 15) hx hb dX9_isDoubted_8 (by decide) (fun _ => ?_) (fun c_ => absurd (by decide +kernel) c_)
  refine lv_iconst (v := 0) hx hb dX9_isDoubted_15 (by decide) ?_
  exact k_zret hC hr hlk hK hP hD hS () [0] rfl (by decide) rfl rfl (Nat.le_of_ble_eq_true rfl) (Nat.le_of_ble_eq_true rfl) dX9_isDoubted_16
theorem dX9_doubt_0 : decode cX9_doubt 0 = .ok (.iload_n 1, 1) := by decide +kernel
theorem dX9_doubt_1 : decode cX9_doubt 1 = .ok (.invokestatic 107, 3) := by decide +kernel
set_option maxRecDepth 100000 in
theorem wm_X9_107 : Cond.methodLink RX9 107 yX9_isTrader ∈ gw := gm (List.mem_of_getElem? (i := 753) (by decide +kernel)) rfl
set_option maxRecDepth 100000 in
theorem mi_X9_isTrader : MI yX9_isTrader cX9_isTrader 1 (some .boolean) 1 := ⟨gm (List.mem_of_getElem? (i := 755) rfl) rfl, gm (List.mem_of_getElem? (i := 112) (by decide +kernel)) rfl, by decide, by decide, by decide +kernel⟩
set_option maxRecDepth 100000 in
theorem st_X9_isTrader : Cond.static yX9_isTrader ∈ gw := gm (List.mem_of_getElem? (i := 754) (by decide +kernel)) rfl
theorem dX9_doubt_4 : decode cX9_doubt 4 = .ok (.ifCond .eq 12, 3) := by decide +kernel
theorem dX9_doubt_7 : decode cX9_doubt 7 = .ok (.aload_n 0, 1) := by decide +kernel
theorem dX9_doubt_8 : decode cX9_doubt 8 = .ok (.iload_n 1, 1) := by decide +kernel
theorem dX9_doubt_9 : decode cX9_doubt 9 = .ok (.invokevirtual 122, 3) := by decide +kernel
set_option maxRecDepth 100000 in
theorem wm_X9_122 : Cond.methodLink RX9 122 yX9_isDoubted ∈ gw := gm (List.mem_of_getElem? (i := 778) (by decide +kernel)) rfl
set_option maxRecDepth 100000 in
theorem mi_X9_isDoubted : MI yX9_isDoubted cX9_isDoubted 2 (some .boolean) 1 := ⟨gm (List.mem_of_getElem? (i := 781) rfl) rfl, gm (List.mem_of_getElem? (i := 112) (by decide +kernel)) rfl, by decide, by decide, by decide +kernel⟩
set_option maxRecDepth 100000 in
theorem in_X9_isDoubted : Cond.instanceMethod yX9_isDoubted ∈ gw := gm (List.mem_of_getElem? (i := 780) (by decide +kernel)) rfl
set_option maxRecDepth 100000 in
theorem se_X9_isDoubted : Cond.selects yX9_isDoubted.cls yX9_isDoubted yX9_isDoubted ∈ gw := gm (List.mem_of_getElem? (i := 21) (by decide +kernel)) rfl
theorem dX9_doubt_12 : decode cX9_doubt 12 = .ok (.iload_n 2, 1) := by decide +kernel
theorem dX9_doubt_13 : decode cX9_doubt 13 = .ok (.if_icmp .ne 5, 3) := by decide +kernel
theorem dX9_doubt_16 : decode cX9_doubt 16 = .ok (.iconst 0, 1) := by decide +kernel
theorem dX9_doubt_17 : decode cX9_doubt 17 = .ok (.ireturn, 1) := by decide +kernel
set_option maxHeartbeats 4000000 in
set_option maxRecDepth 100000 in
theorem c47_X9_doubt (l : Launch) (G : va_G) (cI cJ cB cZ : ClassId) (a0 a1 a2 a3 a4 a5 a6 a7 : Nat) (x0 : Int32) : Con l G (TY cI cJ cB cZ) yX9_doubt cX9_doubt 3 (some .boolean) ({ frames := 1, cells := 0, slots := 0, locals := 21 } : Room) [.ref a0, .int x0, .int 0] [(a0, .inr (9, [.ref a1, .ref a2, .ref a3, .int 0, .int 0, .ref a4, .ref a5, .ref a6, .ref a7]))] (QI G (TY cI cJ cB cZ) (fun (r : Int32) (u : Unit) => r = 0) (fun u : Unit => [])) := by
  refine k_met (by decide) (Nat.le_of_ble_eq_true rfl) ?_
  intro p e s m below meth c A ls hC hr hlk hnm hN hK hA hP hD hS hl
  have hl : lv_has ls 3 [(0, .ref a0), (1, .int x0), (2, .int 0)] := hl
  obtain ⟨hx, hb, hml, hown, hts⟩ := id hC
  refine lv_iload_n hx hb dX9_doubt_0 rfl (lv_at hl 1 rfl) ?_
  refine k_ci (wr := [(a0, .inr (9, [.ref a1, .ref a2, .ref a3, .int 0, .int 0, .ref a4, .ref a5, .ref a6, .ref a7]))]) (k_rS hC hN hK hP hD (c36_X9_isTrader l G cI cJ cB cZ x0) [] rfl (by decide) mi_X9_isTrader st_X9_isTrader wm_X9_107 hl.1 rfl rfl (Nat.le_of_ble_eq_true rfl) ⟨(Nat.le_of_ble_eq_true rfl), (Nat.le_of_ble_eq_true rfl)⟩ dX9_doubt_1 ⟨(Nat.le_of_ble_eq_true rfl), (Nat.le_of_ble_eq_true rfl)⟩) hP hD hS hA [] [0] rfl rfl (by decide) (by decide) (fun r1 u1 H locs hp hP hD hS => ?_)
  have hP : va_P G cl [(a0, .inr (9, [.ref a1, .ref a2, .ref a3, .int 0, .int 0, .ref a4, .ref a5, .ref a6, .ref a7]))] H := hP
  have hD : va_D A [(a0, .inr (9, [.ref a1, .ref a2, .ref a3, .int 0, .int 0, .ref a4, .ref a5, .ref a6, .ref a7]))] := hD
  rcases hp with ⟨rfl, hq1⟩ | ⟨rfl, hq1⟩
  · skip
    have e_2 : x0.toInt = 0 ∨ x0.toInt = 1 ∨ x0.toInt = 2 ∨ x0.toInt = 3 ∨ x0.toInt = 4 ∨ x0.toInt = 5 ∨ x0.toInt = 6 ∨ x0.toInt = 7 ∨ x0.toInt = 8 ∨ x0.toInt = 9 := by omega
    obtain rfl | rfl | rfl | rfl | rfl | rfl | rfl | rfl | rfl | rfl : x0 = 0 ∨ x0 = 1 ∨ x0 = 2 ∨ x0 = 3 ∨ x0 = 4 ∨ x0 = 5 ∨ x0 = 6 ∨ x0 = 7 ∨ x0 = 8 ∨ x0 = 9 := by simp only [fa_eq]; exact e_2
    · skip
      refine lv_if_eq (tgt := 16) hx hb dX9_doubt_4 (by decide) (fun c_ => absurd c_ (by decide +kernel)) (fun _ => ?_)
      refine lv_aload_n hx hb dX9_doubt_7 rfl (lv_at hl 0 rfl) ?_
      refine lv_iload_n hx hb dX9_doubt_8 rfl (lv_at hl 1 rfl) ?_
      refine k_ci (wr := []) (k_rV hC hN hK hP hD (c37_X9_isDoubted l G cI cJ cB cZ a0 a1 a2 a3 a4 a5 a6 a7) [0] rfl (by decide) mi_X9_isDoubted in_X9_isDoubted se_X9_isDoubted wm_X9_122 9 0 rfl rfl rfl hl.1 rfl rfl (Nat.le_of_ble_eq_true rfl) ⟨(Nat.le_of_ble_eq_true rfl), (Nat.le_of_ble_eq_true rfl)⟩ dX9_doubt_9 ⟨(Nat.le_of_ble_eq_true rfl), (Nat.le_of_ble_eq_true rfl)⟩) hP hD hS hA [0] [] rfl rfl (by decide) (by decide) (fun r3 u3 H locs hp hP hD hS => ?_)
      have hP : va_P G cl [(a0, .inr (9, [.ref a1, .ref a2, .ref a3, .int 0, .int 0, .ref a4, .ref a5, .ref a6, .ref a7]))] H := hP
      have hD : va_D A [(a0, .inr (9, [.ref a1, .ref a2, .ref a3, .int 0, .int 0, .ref a4, .ref a5, .ref a6, .ref a7]))] := hD
      subst hp
      refine lv_iload_n hx hb dX9_doubt_12 rfl (lv_at hl 2 rfl) ?_
      refine lv_icmp_ne (tgt := 18) hx hb dX9_doubt_13 (by decide) (fun c_ => absurd (by decide +kernel) c_) (fun _ => ?_)
      refine lv_iconst (v := 0) hx hb dX9_doubt_16 (by decide) ?_
      exact k_zret hC hr hlk hK hP hD hS () [] rfl (by decide) rfl rfl (Nat.le_of_ble_eq_true rfl) (Nat.le_of_ble_eq_true rfl) dX9_doubt_17
    · skip
      refine lv_if_eq (tgt := 16) hx hb dX9_doubt_4 (by decide) (fun c_ => absurd c_ (by decide +kernel)) (fun _ => ?_)
      refine lv_aload_n hx hb dX9_doubt_7 rfl (lv_at hl 0 rfl) ?_
      refine lv_iload_n hx hb dX9_doubt_8 rfl (lv_at hl 1 rfl) ?_
      refine k_ci (wr := []) (k_rV hC hN hK hP hD (c38_X9_isDoubted l G cI cJ cB cZ a0 a1 a2 a3 a4 a5 a6 a7) [0] rfl (by decide) mi_X9_isDoubted in_X9_isDoubted se_X9_isDoubted wm_X9_122 9 0 rfl rfl rfl hl.1 rfl rfl (Nat.le_of_ble_eq_true rfl) ⟨(Nat.le_of_ble_eq_true rfl), (Nat.le_of_ble_eq_true rfl)⟩ dX9_doubt_9 ⟨(Nat.le_of_ble_eq_true rfl), (Nat.le_of_ble_eq_true rfl)⟩) hP hD hS hA [0] [] rfl rfl (by decide) (by decide) (fun r4 u4 H locs hp hP hD hS => ?_)
      have hP : va_P G cl [(a0, .inr (9, [.ref a1, .ref a2, .ref a3, .int 0, .int 0, .ref a4, .ref a5, .ref a6, .ref a7]))] H := hP
      have hD : va_D A [(a0, .inr (9, [.ref a1, .ref a2, .ref a3, .int 0, .int 0, .ref a4, .ref a5, .ref a6, .ref a7]))] := hD
      subst hp
      refine lv_iload_n hx hb dX9_doubt_12 rfl (lv_at hl 2 rfl) ?_
      refine lv_icmp_ne (tgt := 18) hx hb dX9_doubt_13 (by decide) (fun c_ => absurd (by decide +kernel) c_) (fun _ => ?_)
      refine lv_iconst (v := 0) hx hb dX9_doubt_16 (by decide) ?_
      exact k_zret hC hr hlk hK hP hD hS () [] rfl (by decide) rfl rfl (Nat.le_of_ble_eq_true rfl) (Nat.le_of_ble_eq_true rfl) dX9_doubt_17
    · skip
      refine lv_if_eq (tgt := 16) hx hb dX9_doubt_4 (by decide) (fun c_ => absurd c_ (by decide +kernel)) (fun _ => ?_)
      refine lv_aload_n hx hb dX9_doubt_7 rfl (lv_at hl 0 rfl) ?_
      refine lv_iload_n hx hb dX9_doubt_8 rfl (lv_at hl 1 rfl) ?_
      refine k_ci (wr := []) (k_rV hC hN hK hP hD (c39_X9_isDoubted l G cI cJ cB cZ a0 a1 a2 a3 a4 a5 a6 a7) [0] rfl (by decide) mi_X9_isDoubted in_X9_isDoubted se_X9_isDoubted wm_X9_122 9 0 rfl rfl rfl hl.1 rfl rfl (Nat.le_of_ble_eq_true rfl) ⟨(Nat.le_of_ble_eq_true rfl), (Nat.le_of_ble_eq_true rfl)⟩ dX9_doubt_9 ⟨(Nat.le_of_ble_eq_true rfl), (Nat.le_of_ble_eq_true rfl)⟩) hP hD hS hA [0] [] rfl rfl (by decide) (by decide) (fun r5 u5 H locs hp hP hD hS => ?_)
      have hP : va_P G cl [(a0, .inr (9, [.ref a1, .ref a2, .ref a3, .int 0, .int 0, .ref a4, .ref a5, .ref a6, .ref a7]))] H := hP
      have hD : va_D A [(a0, .inr (9, [.ref a1, .ref a2, .ref a3, .int 0, .int 0, .ref a4, .ref a5, .ref a6, .ref a7]))] := hD
      subst hp
      refine lv_iload_n hx hb dX9_doubt_12 rfl (lv_at hl 2 rfl) ?_
      refine lv_icmp_ne (tgt := 18) hx hb dX9_doubt_13 (by decide) (fun c_ => absurd (by decide +kernel) c_) (fun _ => ?_)
      refine lv_iconst (v := 0) hx hb dX9_doubt_16 (by decide) ?_
      exact k_zret hC hr hlk hK hP hD hS () [] rfl (by decide) rfl rfl (Nat.le_of_ble_eq_true rfl) (Nat.le_of_ble_eq_true rfl) dX9_doubt_17
    · skip
      refine lv_if_eq (tgt := 16) hx hb dX9_doubt_4 (by decide) (fun c_ => absurd c_ (by decide +kernel)) (fun _ => ?_)
      refine lv_aload_n hx hb dX9_doubt_7 rfl (lv_at hl 0 rfl) ?_
      refine lv_iload_n hx hb dX9_doubt_8 rfl (lv_at hl 1 rfl) ?_
      refine k_ci (wr := []) (k_rV hC hN hK hP hD (c40_X9_isDoubted l G cI cJ cB cZ a0 a1 a2 a3 a4 a5 a6 a7) [0] rfl (by decide) mi_X9_isDoubted in_X9_isDoubted se_X9_isDoubted wm_X9_122 9 0 rfl rfl rfl hl.1 rfl rfl (Nat.le_of_ble_eq_true rfl) ⟨(Nat.le_of_ble_eq_true rfl), (Nat.le_of_ble_eq_true rfl)⟩ dX9_doubt_9 ⟨(Nat.le_of_ble_eq_true rfl), (Nat.le_of_ble_eq_true rfl)⟩) hP hD hS hA [0] [] rfl rfl (by decide) (by decide) (fun r6 u6 H locs hp hP hD hS => ?_)
      have hP : va_P G cl [(a0, .inr (9, [.ref a1, .ref a2, .ref a3, .int 0, .int 0, .ref a4, .ref a5, .ref a6, .ref a7]))] H := hP
      have hD : va_D A [(a0, .inr (9, [.ref a1, .ref a2, .ref a3, .int 0, .int 0, .ref a4, .ref a5, .ref a6, .ref a7]))] := hD
      subst hp
      refine lv_iload_n hx hb dX9_doubt_12 rfl (lv_at hl 2 rfl) ?_
      refine lv_icmp_ne (tgt := 18) hx hb dX9_doubt_13 (by decide) (fun c_ => absurd (by decide +kernel) c_) (fun _ => ?_)
      refine lv_iconst (v := 0) hx hb dX9_doubt_16 (by decide) ?_
      exact k_zret hC hr hlk hK hP hD hS () [] rfl (by decide) rfl rfl (Nat.le_of_ble_eq_true rfl) (Nat.le_of_ble_eq_true rfl) dX9_doubt_17
    · skip
      refine lv_if_eq (tgt := 16) hx hb dX9_doubt_4 (by decide) (fun c_ => absurd c_ (by decide +kernel)) (fun _ => ?_)
      refine lv_aload_n hx hb dX9_doubt_7 rfl (lv_at hl 0 rfl) ?_
      refine lv_iload_n hx hb dX9_doubt_8 rfl (lv_at hl 1 rfl) ?_
      refine k_ci (wr := []) (k_rV hC hN hK hP hD (c41_X9_isDoubted l G cI cJ cB cZ a0 a1 a2 a3 a4 a5 a6 a7) [0] rfl (by decide) mi_X9_isDoubted in_X9_isDoubted se_X9_isDoubted wm_X9_122 9 0 rfl rfl rfl hl.1 rfl rfl (Nat.le_of_ble_eq_true rfl) ⟨(Nat.le_of_ble_eq_true rfl), (Nat.le_of_ble_eq_true rfl)⟩ dX9_doubt_9 ⟨(Nat.le_of_ble_eq_true rfl), (Nat.le_of_ble_eq_true rfl)⟩) hP hD hS hA [0] [] rfl rfl (by decide) (by decide) (fun r7 u7 H locs hp hP hD hS => ?_)
      have hP : va_P G cl [(a0, .inr (9, [.ref a1, .ref a2, .ref a3, .int 0, .int 0, .ref a4, .ref a5, .ref a6, .ref a7]))] H := hP
      have hD : va_D A [(a0, .inr (9, [.ref a1, .ref a2, .ref a3, .int 0, .int 0, .ref a4, .ref a5, .ref a6, .ref a7]))] := hD
      subst hp
      refine lv_iload_n hx hb dX9_doubt_12 rfl (lv_at hl 2 rfl) ?_
      refine lv_icmp_ne (tgt := 18) hx hb dX9_doubt_13 (by decide) (fun c_ => absurd (by decide +kernel) c_) (fun _ => ?_)
      refine lv_iconst (v := 0) hx hb dX9_doubt_16 (by decide) ?_
      exact k_zret hC hr hlk hK hP hD hS () [] rfl (by decide) rfl rfl (Nat.le_of_ble_eq_true rfl) (Nat.le_of_ble_eq_true rfl) dX9_doubt_17
    · skip
      refine lv_if_eq (tgt := 16) hx hb dX9_doubt_4 (by decide) (fun c_ => absurd c_ (by decide +kernel)) (fun _ => ?_)
      refine lv_aload_n hx hb dX9_doubt_7 rfl (lv_at hl 0 rfl) ?_
      refine lv_iload_n hx hb dX9_doubt_8 rfl (lv_at hl 1 rfl) ?_
      refine k_ci (wr := []) (k_rV hC hN hK hP hD (c42_X9_isDoubted l G cI cJ cB cZ a0 a1 a2 a3 a4 a5 a6 a7) [0] rfl (by decide) mi_X9_isDoubted in_X9_isDoubted se_X9_isDoubted wm_X9_122 9 0 rfl rfl rfl hl.1 rfl rfl (Nat.le_of_ble_eq_true rfl) ⟨(Nat.le_of_ble_eq_true rfl), (Nat.le_of_ble_eq_true rfl)⟩ dX9_doubt_9 ⟨(Nat.le_of_ble_eq_true rfl), (Nat.le_of_ble_eq_true rfl)⟩) hP hD hS hA [0] [] rfl rfl (by decide) (by decide) (fun r8 u8 H locs hp hP hD hS => ?_)
      have hP : va_P G cl [(a0, .inr (9, [.ref a1, .ref a2, .ref a3, .int 0, .int 0, .ref a4, .ref a5, .ref a6, .ref a7]))] H := hP
      have hD : va_D A [(a0, .inr (9, [.ref a1, .ref a2, .ref a3, .int 0, .int 0, .ref a4, .ref a5, .ref a6, .ref a7]))] := hD
      subst hp
      refine lv_iload_n hx hb dX9_doubt_12 rfl (lv_at hl 2 rfl) ?_
      refine lv_icmp_ne (tgt := 18) hx hb dX9_doubt_13 (by decide) (fun c_ => absurd (by decide +kernel) c_) (fun _ => ?_)
      refine lv_iconst (v := 0) hx hb dX9_doubt_16 (by decide) ?_
      exact k_zret hC hr hlk hK hP hD hS () [] rfl (by decide) rfl rfl (Nat.le_of_ble_eq_true rfl) (Nat.le_of_ble_eq_true rfl) dX9_doubt_17
    · skip
      refine lv_if_eq (tgt := 16) hx hb dX9_doubt_4 (by decide) (fun c_ => absurd c_ (by decide +kernel)) (fun _ => ?_)
      refine lv_aload_n hx hb dX9_doubt_7 rfl (lv_at hl 0 rfl) ?_
      refine lv_iload_n hx hb dX9_doubt_8 rfl (lv_at hl 1 rfl) ?_
      refine k_ci (wr := []) (k_rV hC hN hK hP hD (c43_X9_isDoubted l G cI cJ cB cZ a0 a1 a2 a3 a4 a5 a6 a7) [0] rfl (by decide) mi_X9_isDoubted in_X9_isDoubted se_X9_isDoubted wm_X9_122 9 0 rfl rfl rfl hl.1 rfl rfl (Nat.le_of_ble_eq_true rfl) ⟨(Nat.le_of_ble_eq_true rfl), (Nat.le_of_ble_eq_true rfl)⟩ dX9_doubt_9 ⟨(Nat.le_of_ble_eq_true rfl), (Nat.le_of_ble_eq_true rfl)⟩) hP hD hS hA [0] [] rfl rfl (by decide) (by decide) (fun r9 u9 H locs hp hP hD hS => ?_)
      have hP : va_P G cl [(a0, .inr (9, [.ref a1, .ref a2, .ref a3, .int 0, .int 0, .ref a4, .ref a5, .ref a6, .ref a7]))] H := hP
      have hD : va_D A [(a0, .inr (9, [.ref a1, .ref a2, .ref a3, .int 0, .int 0, .ref a4, .ref a5, .ref a6, .ref a7]))] := hD
      subst hp
      refine lv_iload_n hx hb dX9_doubt_12 rfl (lv_at hl 2 rfl) ?_
      refine lv_icmp_ne (tgt := 18) hx hb dX9_doubt_13 (by decide) (fun c_ => absurd (by decide +kernel) c_) (fun _ => ?_)
      refine lv_iconst (v := 0) hx hb dX9_doubt_16 (by decide) ?_
      exact k_zret hC hr hlk hK hP hD hS () [] rfl (by decide) rfl rfl (Nat.le_of_ble_eq_true rfl) (Nat.le_of_ble_eq_true rfl) dX9_doubt_17
    · skip
      refine lv_if_eq (tgt := 16) hx hb dX9_doubt_4 (by decide) (fun c_ => absurd c_ (by decide +kernel)) (fun _ => ?_)
      refine lv_aload_n hx hb dX9_doubt_7 rfl (lv_at hl 0 rfl) ?_
      refine lv_iload_n hx hb dX9_doubt_8 rfl (lv_at hl 1 rfl) ?_
      refine k_ci (wr := []) (k_rV hC hN hK hP hD (c44_X9_isDoubted l G cI cJ cB cZ a0 a1 a2 a3 a4 a5 a6 a7) [0] rfl (by decide) mi_X9_isDoubted in_X9_isDoubted se_X9_isDoubted wm_X9_122 9 0 rfl rfl rfl hl.1 rfl rfl (Nat.le_of_ble_eq_true rfl) ⟨(Nat.le_of_ble_eq_true rfl), (Nat.le_of_ble_eq_true rfl)⟩ dX9_doubt_9 ⟨(Nat.le_of_ble_eq_true rfl), (Nat.le_of_ble_eq_true rfl)⟩) hP hD hS hA [0] [] rfl rfl (by decide) (by decide) (fun r10 u10 H locs hp hP hD hS => ?_)
      have hP : va_P G cl [(a0, .inr (9, [.ref a1, .ref a2, .ref a3, .int 0, .int 0, .ref a4, .ref a5, .ref a6, .ref a7]))] H := hP
      have hD : va_D A [(a0, .inr (9, [.ref a1, .ref a2, .ref a3, .int 0, .int 0, .ref a4, .ref a5, .ref a6, .ref a7]))] := hD
      subst hp
      refine lv_iload_n hx hb dX9_doubt_12 rfl (lv_at hl 2 rfl) ?_
      refine lv_icmp_ne (tgt := 18) hx hb dX9_doubt_13 (by decide) (fun c_ => absurd (by decide +kernel) c_) (fun _ => ?_)
      refine lv_iconst (v := 0) hx hb dX9_doubt_16 (by decide) ?_
      exact k_zret hC hr hlk hK hP hD hS () [] rfl (by decide) rfl rfl (Nat.le_of_ble_eq_true rfl) (Nat.le_of_ble_eq_true rfl) dX9_doubt_17
    · skip
      refine lv_if_eq (tgt := 16) hx hb dX9_doubt_4 (by decide) (fun c_ => absurd c_ (by decide +kernel)) (fun _ => ?_)
      refine lv_aload_n hx hb dX9_doubt_7 rfl (lv_at hl 0 rfl) ?_
      refine lv_iload_n hx hb dX9_doubt_8 rfl (lv_at hl 1 rfl) ?_
      refine k_ci (wr := []) (k_rV hC hN hK hP hD (c45_X9_isDoubted l G cI cJ cB cZ a0 a1 a2 a3 a4 a5 a6 a7) [0] rfl (by decide) mi_X9_isDoubted in_X9_isDoubted se_X9_isDoubted wm_X9_122 9 0 rfl rfl rfl hl.1 rfl rfl (Nat.le_of_ble_eq_true rfl) ⟨(Nat.le_of_ble_eq_true rfl), (Nat.le_of_ble_eq_true rfl)⟩ dX9_doubt_9 ⟨(Nat.le_of_ble_eq_true rfl), (Nat.le_of_ble_eq_true rfl)⟩) hP hD hS hA [0] [] rfl rfl (by decide) (by decide) (fun r11 u11 H locs hp hP hD hS => ?_)
      have hP : va_P G cl [(a0, .inr (9, [.ref a1, .ref a2, .ref a3, .int 0, .int 0, .ref a4, .ref a5, .ref a6, .ref a7]))] H := hP
      have hD : va_D A [(a0, .inr (9, [.ref a1, .ref a2, .ref a3, .int 0, .int 0, .ref a4, .ref a5, .ref a6, .ref a7]))] := hD
      subst hp
      refine lv_iload_n hx hb dX9_doubt_12 rfl (lv_at hl 2 rfl) ?_
      refine lv_icmp_ne (tgt := 18) hx hb dX9_doubt_13 (by decide) (fun c_ => absurd (by decide +kernel) c_) (fun _ => ?_)
      refine lv_iconst (v := 0) hx hb dX9_doubt_16 (by decide) ?_
      exact k_zret hC hr hlk hK hP hD hS () [] rfl (by decide) rfl rfl (Nat.le_of_ble_eq_true rfl) (Nat.le_of_ble_eq_true rfl) dX9_doubt_17
    · skip
      refine lv_if_eq (tgt := 16) hx hb dX9_doubt_4 (by decide) (fun c_ => absurd c_ (by decide +kernel)) (fun _ => ?_)
      refine lv_aload_n hx hb dX9_doubt_7 rfl (lv_at hl 0 rfl) ?_
      refine lv_iload_n hx hb dX9_doubt_8 rfl (lv_at hl 1 rfl) ?_
      refine k_ci (wr := []) (k_rV hC hN hK hP hD (c46_X9_isDoubted l G cI cJ cB cZ a0 a1 a2 a3 a4 a5 a6 a7) [0] rfl (by decide) mi_X9_isDoubted in_X9_isDoubted se_X9_isDoubted wm_X9_122 9 0 rfl rfl rfl hl.1 rfl rfl (Nat.le_of_ble_eq_true rfl) ⟨(Nat.le_of_ble_eq_true rfl), (Nat.le_of_ble_eq_true rfl)⟩ dX9_doubt_9 ⟨(Nat.le_of_ble_eq_true rfl), (Nat.le_of_ble_eq_true rfl)⟩) hP hD hS hA [0] [] rfl rfl (by decide) (by decide) (fun r12 u12 H locs hp hP hD hS => ?_)
      have hP : va_P G cl [(a0, .inr (9, [.ref a1, .ref a2, .ref a3, .int 0, .int 0, .ref a4, .ref a5, .ref a6, .ref a7]))] H := hP
      have hD : va_D A [(a0, .inr (9, [.ref a1, .ref a2, .ref a3, .int 0, .int 0, .ref a4, .ref a5, .ref a6, .ref a7]))] := hD
      subst hp
      refine lv_iload_n hx hb dX9_doubt_12 rfl (lv_at hl 2 rfl) ?_
      refine lv_icmp_ne (tgt := 18) hx hb dX9_doubt_13 (by decide) (fun c_ => absurd (by decide +kernel) c_) (fun _ => ?_)
      refine lv_iconst (v := 0) hx hb dX9_doubt_16 (by decide) ?_
      exact k_zret hC hr hlk hK hP hD hS () [] rfl (by decide) rfl rfl (Nat.le_of_ble_eq_true rfl) (Nat.le_of_ble_eq_true rfl) dX9_doubt_17
  · skip
    refine lv_if_eq (tgt := 16) hx hb dX9_doubt_4 (by decide) (fun _ => ?_) (fun c_ => absurd (by decide +kernel) c_)
    refine lv_iconst (v := 0) hx hb dX9_doubt_16 (by decide) ?_
    exact k_zret hC hr hlk hK hP hD hS () [] rfl (by decide) rfl rfl (Nat.le_of_ble_eq_true rfl) (Nat.le_of_ble_eq_true rfl) dX9_doubt_17
theorem dX9_doubt_18 : decode cX9_doubt 18 = .ok (.aload_n 0, 1) := by decide +kernel
theorem dX9_doubt_19 : decode cX9_doubt 19 = .ok (.dup, 1) := by decide +kernel
theorem dX9_doubt_20 : decode cX9_doubt 20 = .ok (.getfield 36, 3) := by decide +kernel
theorem dX9_doubt_23 : decode cX9_doubt 23 = .ok (.iconst 1, 1) := by decide +kernel
theorem dX9_doubt_24 : decode cX9_doubt 24 = .ok (.iload_n 1, 1) := by decide +kernel
theorem dX9_doubt_25 : decode cX9_doubt 25 = .ok (.ishl, 1) := by decide +kernel
theorem dX9_doubt_26 : decode cX9_doubt 26 = .ok (.ixor, 1) := by decide +kernel
theorem dX9_doubt_27 : decode cX9_doubt 27 = .ok (.putfield 36, 3) := by decide +kernel
theorem dX9_doubt_30 : decode cX9_doubt 30 = .ok (.iconst 1, 1) := by decide +kernel
theorem dX9_doubt_31 : decode cX9_doubt 31 = .ok (.ireturn, 1) := by decide +kernel
set_option maxHeartbeats 4000000 in
set_option maxRecDepth 100000 in
theorem c48_X9_doubt (l : Launch) (G : va_G) (cI cJ cB cZ : ClassId) (a0 a1 a2 a3 a4 a5 a6 a7 : Nat) (x0 : Int32) : Con l G (TY cI cJ cB cZ) yX9_doubt cX9_doubt 3 (some .boolean) ({ frames := 1, cells := 0, slots := 0, locals := 21 } : Room) [.ref a0, .int x0, .int 1] [(a0, .inr (9, [.ref a1, .ref a2, .ref a3, .int 0, .int 0, .ref a4, .ref a5, .ref a6, .ref a7]))] (QI G (TY cI cJ cB cZ) (fun (r : Int32) (u : Unit) => r = sp_in10 x0) (fun u : Unit => [])) := by
  refine k_met (by decide) (Nat.le_of_ble_eq_true rfl) ?_
  intro p e s m below meth c A ls hC hr hlk hnm hN hK hA hP hD hS hl
  have hl : lv_has ls 3 [(0, .ref a0), (1, .int x0), (2, .int 1)] := hl
  obtain ⟨hx, hb, hml, hown, hts⟩ := id hC
  refine lv_iload_n hx hb dX9_doubt_0 rfl (lv_at hl 1 rfl) ?_
  refine k_ci (wr := [(a0, .inr (9, [.ref a1, .ref a2, .ref a3, .int 0, .int 0, .ref a4, .ref a5, .ref a6, .ref a7]))]) (k_rS hC hN hK hP hD (c36_X9_isTrader l G cI cJ cB cZ x0) [] rfl (by decide) mi_X9_isTrader st_X9_isTrader wm_X9_107 hl.1 rfl rfl (Nat.le_of_ble_eq_true rfl) ⟨(Nat.le_of_ble_eq_true rfl), (Nat.le_of_ble_eq_true rfl)⟩ dX9_doubt_1 ⟨(Nat.le_of_ble_eq_true rfl), (Nat.le_of_ble_eq_true rfl)⟩) hP hD hS hA [] [0] rfl rfl (by decide) (by decide) (fun r1 u1 H locs hp hP hD hS => ?_)
  have hP : va_P G cl [(a0, .inr (9, [.ref a1, .ref a2, .ref a3, .int 0, .int 0, .ref a4, .ref a5, .ref a6, .ref a7]))] H := hP
  have hD : va_D A [(a0, .inr (9, [.ref a1, .ref a2, .ref a3, .int 0, .int 0, .ref a4, .ref a5, .ref a6, .ref a7]))] := hD
  rcases hp with ⟨rfl, hq1⟩ | ⟨rfl, hq1⟩
  · skip
    have e_2 : x0.toInt = 0 ∨ x0.toInt = 1 ∨ x0.toInt = 2 ∨ x0.toInt = 3 ∨ x0.toInt = 4 ∨ x0.toInt = 5 ∨ x0.toInt = 6 ∨ x0.toInt = 7 ∨ x0.toInt = 8 ∨ x0.toInt = 9 := by omega
    obtain rfl | rfl | rfl | rfl | rfl | rfl | rfl | rfl | rfl | rfl : x0 = 0 ∨ x0 = 1 ∨ x0 = 2 ∨ x0 = 3 ∨ x0 = 4 ∨ x0 = 5 ∨ x0 = 6 ∨ x0 = 7 ∨ x0 = 8 ∨ x0 = 9 := by simp only [fa_eq]; exact e_2
    · skip
      refine lv_if_eq (tgt := 16) hx hb dX9_doubt_4 (by decide) (fun c_ => absurd c_ (by decide +kernel)) (fun _ => ?_)
      refine lv_aload_n hx hb dX9_doubt_7 rfl (lv_at hl 0 rfl) ?_
      refine lv_iload_n hx hb dX9_doubt_8 rfl (lv_at hl 1 rfl) ?_
      refine k_ci (wr := []) (k_rV hC hN hK hP hD (c37_X9_isDoubted l G cI cJ cB cZ a0 a1 a2 a3 a4 a5 a6 a7) [0] rfl (by decide) mi_X9_isDoubted in_X9_isDoubted se_X9_isDoubted wm_X9_122 9 0 rfl rfl rfl hl.1 rfl rfl (Nat.le_of_ble_eq_true rfl) ⟨(Nat.le_of_ble_eq_true rfl), (Nat.le_of_ble_eq_true rfl)⟩ dX9_doubt_9 ⟨(Nat.le_of_ble_eq_true rfl), (Nat.le_of_ble_eq_true rfl)⟩) hP hD hS hA [0] [] rfl rfl (by decide) (by decide) (fun r3 u3 H locs hp hP hD hS => ?_)
      have hP : va_P G cl [(a0, .inr (9, [.ref a1, .ref a2, .ref a3, .int 0, .int 0, .ref a4, .ref a5, .ref a6, .ref a7]))] H := hP
      have hD : va_D A [(a0, .inr (9, [.ref a1, .ref a2, .ref a3, .int 0, .int 0, .ref a4, .ref a5, .ref a6, .ref a7]))] := hD
      subst hp
      refine lv_iload_n hx hb dX9_doubt_12 rfl (lv_at hl 2 rfl) ?_
      refine lv_icmp_ne (tgt := 18) hx hb dX9_doubt_13 (by decide) (fun _ => ?_) (fun c_ => absurd c_ (by decide +kernel))
      refine lv_aload_n hx hb dX9_doubt_18 rfl (lv_at hl 0 rfl) ?_
      refine lv_dup hx hb dX9_doubt_19 rfl ?_
      refine k_get hC hK hP iX9 0 4 wf_X9_36 rfl (by decide) rfl rfl dX9_doubt_20 ?_
      refine lv_iconst (v := 1) hx hb dX9_doubt_23 (by decide) ?_
      refine lv_iload_n hx hb dX9_doubt_24 rfl (lv_at hl 1 rfl) ?_
      refine lv_ishl hx hb dX9_doubt_25 ?_
      refine k_i 1 (by decide +kernel) ?_
      refine lv_ixor hx hb dX9_doubt_26 ?_
      refine k_i 1 (by decide +kernel) ?_
      refine k_put hC hK hP hD hS iX9 tyX9_ok nmX9 0 4 wf_X9_36 rfl (by decide) rfl rfl rfl rfl (Nat.le_of_ble_eq_true rfl) dX9_doubt_27 (fun H locs hP hD hS => ?_)
      have hP : va_P G cl [(a0, .inr (9, [.ref a1, .ref a2, .ref a3, .int 0, .int 1, .ref a4, .ref a5, .ref a6, .ref a7]))] H := hP
      have hD : va_D A [(a0, .inr (9, [.ref a1, .ref a2, .ref a3, .int 0, .int 1, .ref a4, .ref a5, .ref a6, .ref a7]))] := hD
      refine lv_iconst (v := 1) hx hb dX9_doubt_30 (by decide) ?_
      exact k_zret hC hr hlk hK hP hD hS () [] rfl (by decide) rfl (by first | decide | (unfold sp_in10; rw [if_neg (by omega)]) | (unfold sp_in10; rw [if_pos (by omega)])) (Nat.le_of_ble_eq_true rfl) (Nat.le_of_ble_eq_true rfl) dX9_doubt_31
    · skip
      refine lv_if_eq (tgt := 16) hx hb dX9_doubt_4 (by decide) (fun c_ => absurd c_ (by decide +kernel)) (fun _ => ?_)
      refine lv_aload_n hx hb dX9_doubt_7 rfl (lv_at hl 0 rfl) ?_
      refine lv_iload_n hx hb dX9_doubt_8 rfl (lv_at hl 1 rfl) ?_
      refine k_ci (wr := []) (k_rV hC hN hK hP hD (c38_X9_isDoubted l G cI cJ cB cZ a0 a1 a2 a3 a4 a5 a6 a7) [0] rfl (by decide) mi_X9_isDoubted in_X9_isDoubted se_X9_isDoubted wm_X9_122 9 0 rfl rfl rfl hl.1 rfl rfl (Nat.le_of_ble_eq_true rfl) ⟨(Nat.le_of_ble_eq_true rfl), (Nat.le_of_ble_eq_true rfl)⟩ dX9_doubt_9 ⟨(Nat.le_of_ble_eq_true rfl), (Nat.le_of_ble_eq_true rfl)⟩) hP hD hS hA [0] [] rfl rfl (by decide) (by decide) (fun r4 u4 H locs hp hP hD hS => ?_)
      have hP : va_P G cl [(a0, .inr (9, [.ref a1, .ref a2, .ref a3, .int 0, .int 0, .ref a4, .ref a5, .ref a6, .ref a7]))] H := hP
      have hD : va_D A [(a0, .inr (9, [.ref a1, .ref a2, .ref a3, .int 0, .int 0, .ref a4, .ref a5, .ref a6, .ref a7]))] := hD
      subst hp
      refine lv_iload_n hx hb dX9_doubt_12 rfl (lv_at hl 2 rfl) ?_
      refine lv_icmp_ne (tgt := 18) hx hb dX9_doubt_13 (by decide) (fun _ => ?_) (fun c_ => absurd c_ (by decide +kernel))
      refine lv_aload_n hx hb dX9_doubt_18 rfl (lv_at hl 0 rfl) ?_
      refine lv_dup hx hb dX9_doubt_19 rfl ?_
      refine k_get hC hK hP iX9 0 4 wf_X9_36 rfl (by decide) rfl rfl dX9_doubt_20 ?_
      refine lv_iconst (v := 1) hx hb dX9_doubt_23 (by decide) ?_
      refine lv_iload_n hx hb dX9_doubt_24 rfl (lv_at hl 1 rfl) ?_
      refine lv_ishl hx hb dX9_doubt_25 ?_
      refine k_i 2 (by decide +kernel) ?_
      refine lv_ixor hx hb dX9_doubt_26 ?_
      refine k_i 2 (by decide +kernel) ?_
      refine k_put hC hK hP hD hS iX9 tyX9_ok nmX9 0 4 wf_X9_36 rfl (by decide) rfl rfl rfl rfl (Nat.le_of_ble_eq_true rfl) dX9_doubt_27 (fun H locs hP hD hS => ?_)
      have hP : va_P G cl [(a0, .inr (9, [.ref a1, .ref a2, .ref a3, .int 0, .int 2, .ref a4, .ref a5, .ref a6, .ref a7]))] H := hP
      have hD : va_D A [(a0, .inr (9, [.ref a1, .ref a2, .ref a3, .int 0, .int 2, .ref a4, .ref a5, .ref a6, .ref a7]))] := hD
      refine lv_iconst (v := 1) hx hb dX9_doubt_30 (by decide) ?_
      exact k_zret hC hr hlk hK hP hD hS () [] rfl (by decide) rfl (by first | decide | (unfold sp_in10; rw [if_neg (by omega)]) | (unfold sp_in10; rw [if_pos (by omega)])) (Nat.le_of_ble_eq_true rfl) (Nat.le_of_ble_eq_true rfl) dX9_doubt_31
    · skip
      refine lv_if_eq (tgt := 16) hx hb dX9_doubt_4 (by decide) (fun c_ => absurd c_ (by decide +kernel)) (fun _ => ?_)
      refine lv_aload_n hx hb dX9_doubt_7 rfl (lv_at hl 0 rfl) ?_
      refine lv_iload_n hx hb dX9_doubt_8 rfl (lv_at hl 1 rfl) ?_
      refine k_ci (wr := []) (k_rV hC hN hK hP hD (c39_X9_isDoubted l G cI cJ cB cZ a0 a1 a2 a3 a4 a5 a6 a7) [0] rfl (by decide) mi_X9_isDoubted in_X9_isDoubted se_X9_isDoubted wm_X9_122 9 0 rfl rfl rfl hl.1 rfl rfl (Nat.le_of_ble_eq_true rfl) ⟨(Nat.le_of_ble_eq_true rfl), (Nat.le_of_ble_eq_true rfl)⟩ dX9_doubt_9 ⟨(Nat.le_of_ble_eq_true rfl), (Nat.le_of_ble_eq_true rfl)⟩) hP hD hS hA [0] [] rfl rfl (by decide) (by decide) (fun r5 u5 H locs hp hP hD hS => ?_)
      have hP : va_P G cl [(a0, .inr (9, [.ref a1, .ref a2, .ref a3, .int 0, .int 0, .ref a4, .ref a5, .ref a6, .ref a7]))] H := hP
      have hD : va_D A [(a0, .inr (9, [.ref a1, .ref a2, .ref a3, .int 0, .int 0, .ref a4, .ref a5, .ref a6, .ref a7]))] := hD
      subst hp
      refine lv_iload_n hx hb dX9_doubt_12 rfl (lv_at hl 2 rfl) ?_
      refine lv_icmp_ne (tgt := 18) hx hb dX9_doubt_13 (by decide) (fun _ => ?_) (fun c_ => absurd c_ (by decide +kernel))
      refine lv_aload_n hx hb dX9_doubt_18 rfl (lv_at hl 0 rfl) ?_
      refine lv_dup hx hb dX9_doubt_19 rfl ?_
      refine k_get hC hK hP iX9 0 4 wf_X9_36 rfl (by decide) rfl rfl dX9_doubt_20 ?_
      refine lv_iconst (v := 1) hx hb dX9_doubt_23 (by decide) ?_
      refine lv_iload_n hx hb dX9_doubt_24 rfl (lv_at hl 1 rfl) ?_
      refine lv_ishl hx hb dX9_doubt_25 ?_
      refine k_i 4 (by decide +kernel) ?_
      refine lv_ixor hx hb dX9_doubt_26 ?_
      refine k_i 4 (by decide +kernel) ?_
      refine k_put hC hK hP hD hS iX9 tyX9_ok nmX9 0 4 wf_X9_36 rfl (by decide) rfl rfl rfl rfl (Nat.le_of_ble_eq_true rfl) dX9_doubt_27 (fun H locs hP hD hS => ?_)
      have hP : va_P G cl [(a0, .inr (9, [.ref a1, .ref a2, .ref a3, .int 0, .int 4, .ref a4, .ref a5, .ref a6, .ref a7]))] H := hP
      have hD : va_D A [(a0, .inr (9, [.ref a1, .ref a2, .ref a3, .int 0, .int 4, .ref a4, .ref a5, .ref a6, .ref a7]))] := hD
      refine lv_iconst (v := 1) hx hb dX9_doubt_30 (by decide) ?_
      exact k_zret hC hr hlk hK hP hD hS () [] rfl (by decide) rfl (by first | decide | (unfold sp_in10; rw [if_neg (by omega)]) | (unfold sp_in10; rw [if_pos (by omega)])) (Nat.le_of_ble_eq_true rfl) (Nat.le_of_ble_eq_true rfl) dX9_doubt_31
    · skip
      refine lv_if_eq (tgt := 16) hx hb dX9_doubt_4 (by decide) (fun c_ => absurd c_ (by decide +kernel)) (fun _ => ?_)
      refine lv_aload_n hx hb dX9_doubt_7 rfl (lv_at hl 0 rfl) ?_
      refine lv_iload_n hx hb dX9_doubt_8 rfl (lv_at hl 1 rfl) ?_
      refine k_ci (wr := []) (k_rV hC hN hK hP hD (c40_X9_isDoubted l G cI cJ cB cZ a0 a1 a2 a3 a4 a5 a6 a7) [0] rfl (by decide) mi_X9_isDoubted in_X9_isDoubted se_X9_isDoubted wm_X9_122 9 0 rfl rfl rfl hl.1 rfl rfl (Nat.le_of_ble_eq_true rfl) ⟨(Nat.le_of_ble_eq_true rfl), (Nat.le_of_ble_eq_true rfl)⟩ dX9_doubt_9 ⟨(Nat.le_of_ble_eq_true rfl), (Nat.le_of_ble_eq_true rfl)⟩) hP hD hS hA [0] [] rfl rfl (by decide) (by decide) (fun r6 u6 H locs hp hP hD hS => ?_)
      have hP : va_P G cl [(a0, .inr (9, [.ref a1, .ref a2, .ref a3, .int 0, .int 0, .ref a4, .ref a5, .ref a6, .ref a7]))] H := hP
      have hD : va_D A [(a0, .inr (9, [.ref a1, .ref a2, .ref a3, .int 0, .int 0, .ref a4, .ref a5, .ref a6, .ref a7]))] := hD
      subst hp
      refine lv_iload_n hx hb dX9_doubt_12 rfl (lv_at hl 2 rfl) ?_
      refine lv_icmp_ne (tgt := 18) hx hb dX9_doubt_13 (by decide) (fun _ => ?_) (fun c_ => absurd c_ (by decide +kernel))
      refine lv_aload_n hx hb dX9_doubt_18 rfl (lv_at hl 0 rfl) ?_
      refine lv_dup hx hb dX9_doubt_19 rfl ?_
      refine k_get hC hK hP iX9 0 4 wf_X9_36 rfl (by decide) rfl rfl dX9_doubt_20 ?_
      refine lv_iconst (v := 1) hx hb dX9_doubt_23 (by decide) ?_
      refine lv_iload_n hx hb dX9_doubt_24 rfl (lv_at hl 1 rfl) ?_
      refine lv_ishl hx hb dX9_doubt_25 ?_
      refine k_i 8 (by decide +kernel) ?_
      refine lv_ixor hx hb dX9_doubt_26 ?_
      refine k_i 8 (by decide +kernel) ?_
      refine k_put hC hK hP hD hS iX9 tyX9_ok nmX9 0 4 wf_X9_36 rfl (by decide) rfl rfl rfl rfl (Nat.le_of_ble_eq_true rfl) dX9_doubt_27 (fun H locs hP hD hS => ?_)
      have hP : va_P G cl [(a0, .inr (9, [.ref a1, .ref a2, .ref a3, .int 0, .int 8, .ref a4, .ref a5, .ref a6, .ref a7]))] H := hP
      have hD : va_D A [(a0, .inr (9, [.ref a1, .ref a2, .ref a3, .int 0, .int 8, .ref a4, .ref a5, .ref a6, .ref a7]))] := hD
      refine lv_iconst (v := 1) hx hb dX9_doubt_30 (by decide) ?_
      exact k_zret hC hr hlk hK hP hD hS () [] rfl (by decide) rfl (by first | decide | (unfold sp_in10; rw [if_neg (by omega)]) | (unfold sp_in10; rw [if_pos (by omega)])) (Nat.le_of_ble_eq_true rfl) (Nat.le_of_ble_eq_true rfl) dX9_doubt_31
    · skip
      refine lv_if_eq (tgt := 16) hx hb dX9_doubt_4 (by decide) (fun c_ => absurd c_ (by decide +kernel)) (fun _ => ?_)
      refine lv_aload_n hx hb dX9_doubt_7 rfl (lv_at hl 0 rfl) ?_
      refine lv_iload_n hx hb dX9_doubt_8 rfl (lv_at hl 1 rfl) ?_
      refine k_ci (wr := []) (k_rV hC hN hK hP hD (c41_X9_isDoubted l G cI cJ cB cZ a0 a1 a2 a3 a4 a5 a6 a7) [0] rfl (by decide) mi_X9_isDoubted in_X9_isDoubted se_X9_isDoubted wm_X9_122 9 0 rfl rfl rfl hl.1 rfl rfl (Nat.le_of_ble_eq_true rfl) ⟨(Nat.le_of_ble_eq_true rfl), (Nat.le_of_ble_eq_true rfl)⟩ dX9_doubt_9 ⟨(Nat.le_of_ble_eq_true rfl), (Nat.le_of_ble_eq_true rfl)⟩) hP hD hS hA [0] [] rfl rfl (by decide) (by decide) (fun r7 u7 H locs hp hP hD hS => ?_)
      have hP : va_P G cl [(a0, .inr (9, [.ref a1, .ref a2, .ref a3, .int 0, .int 0, .ref a4, .ref a5, .ref a6, .ref a7]))] H := hP
      have hD : va_D A [(a0, .inr (9, [.ref a1, .ref a2, .ref a3, .int 0, .int 0, .ref a4, .ref a5, .ref a6, .ref a7]))] := hD
      subst hp
      refine lv_iload_n hx hb dX9_doubt_12 rfl (lv_at hl 2 rfl) ?_
      refine lv_icmp_ne (tgt := 18) hx hb dX9_doubt_13 (by decide) (fun _ => ?_) (fun c_ => absurd c_ (by decide +kernel))
      refine lv_aload_n hx hb dX9_doubt_18 rfl (lv_at hl 0 rfl) ?_
      refine lv_dup hx hb dX9_doubt_19 rfl ?_
      refine k_get hC hK hP iX9 0 4 wf_X9_36 rfl (by decide) rfl rfl dX9_doubt_20 ?_
      refine lv_iconst (v := 1) hx hb dX9_doubt_23 (by decide) ?_
      refine lv_iload_n hx hb dX9_doubt_24 rfl (lv_at hl 1 rfl) ?_
      refine lv_ishl hx hb dX9_doubt_25 ?_
      refine k_i 16 (by decide +kernel) ?_
      refine lv_ixor hx hb dX9_doubt_26 ?_
      refine k_i 16 (by decide +kernel) ?_
      refine k_put hC hK hP hD hS iX9 tyX9_ok nmX9 0 4 wf_X9_36 rfl (by decide) rfl rfl rfl rfl (Nat.le_of_ble_eq_true rfl) dX9_doubt_27 (fun H locs hP hD hS => ?_)
      have hP : va_P G cl [(a0, .inr (9, [.ref a1, .ref a2, .ref a3, .int 0, .int 16, .ref a4, .ref a5, .ref a6, .ref a7]))] H := hP
      have hD : va_D A [(a0, .inr (9, [.ref a1, .ref a2, .ref a3, .int 0, .int 16, .ref a4, .ref a5, .ref a6, .ref a7]))] := hD
      refine lv_iconst (v := 1) hx hb dX9_doubt_30 (by decide) ?_
      exact k_zret hC hr hlk hK hP hD hS () [] rfl (by decide) rfl (by first | decide | (unfold sp_in10; rw [if_neg (by omega)]) | (unfold sp_in10; rw [if_pos (by omega)])) (Nat.le_of_ble_eq_true rfl) (Nat.le_of_ble_eq_true rfl) dX9_doubt_31
    · skip
      refine lv_if_eq (tgt := 16) hx hb dX9_doubt_4 (by decide) (fun c_ => absurd c_ (by decide +kernel)) (fun _ => ?_)
      refine lv_aload_n hx hb dX9_doubt_7 rfl (lv_at hl 0 rfl) ?_
      refine lv_iload_n hx hb dX9_doubt_8 rfl (lv_at hl 1 rfl) ?_
      refine k_ci (wr := []) (k_rV hC hN hK hP hD (c42_X9_isDoubted l G cI cJ cB cZ a0 a1 a2 a3 a4 a5 a6 a7) [0] rfl (by decide) mi_X9_isDoubted in_X9_isDoubted se_X9_isDoubted wm_X9_122 9 0 rfl rfl rfl hl.1 rfl rfl (Nat.le_of_ble_eq_true rfl) ⟨(Nat.le_of_ble_eq_true rfl), (Nat.le_of_ble_eq_true rfl)⟩ dX9_doubt_9 ⟨(Nat.le_of_ble_eq_true rfl), (Nat.le_of_ble_eq_true rfl)⟩) hP hD hS hA [0] [] rfl rfl (by decide) (by decide) (fun r8 u8 H locs hp hP hD hS => ?_)
      have hP : va_P G cl [(a0, .inr (9, [.ref a1, .ref a2, .ref a3, .int 0, .int 0, .ref a4, .ref a5, .ref a6, .ref a7]))] H := hP
      have hD : va_D A [(a0, .inr (9, [.ref a1, .ref a2, .ref a3, .int 0, .int 0, .ref a4, .ref a5, .ref a6, .ref a7]))] := hD
      subst hp
      refine lv_iload_n hx hb dX9_doubt_12 rfl (lv_at hl 2 rfl) ?_
      refine lv_icmp_ne (tgt := 18) hx hb dX9_doubt_13 (by decide) (fun _ => ?_) (fun c_ => absurd c_ (by decide +kernel))
      refine lv_aload_n hx hb dX9_doubt_18 rfl (lv_at hl 0 rfl) ?_
      refine lv_dup hx hb dX9_doubt_19 rfl ?_
      refine k_get hC hK hP iX9 0 4 wf_X9_36 rfl (by decide) rfl rfl dX9_doubt_20 ?_
      refine lv_iconst (v := 1) hx hb dX9_doubt_23 (by decide) ?_
      refine lv_iload_n hx hb dX9_doubt_24 rfl (lv_at hl 1 rfl) ?_
      refine lv_ishl hx hb dX9_doubt_25 ?_
      refine k_i 32 (by decide +kernel) ?_
      refine lv_ixor hx hb dX9_doubt_26 ?_
      refine k_i 32 (by decide +kernel) ?_
      refine k_put hC hK hP hD hS iX9 tyX9_ok nmX9 0 4 wf_X9_36 rfl (by decide) rfl rfl rfl rfl (Nat.le_of_ble_eq_true rfl) dX9_doubt_27 (fun H locs hP hD hS => ?_)
      have hP : va_P G cl [(a0, .inr (9, [.ref a1, .ref a2, .ref a3, .int 0, .int 32, .ref a4, .ref a5, .ref a6, .ref a7]))] H := hP
      have hD : va_D A [(a0, .inr (9, [.ref a1, .ref a2, .ref a3, .int 0, .int 32, .ref a4, .ref a5, .ref a6, .ref a7]))] := hD
      refine lv_iconst (v := 1) hx hb dX9_doubt_30 (by decide) ?_
      exact k_zret hC hr hlk hK hP hD hS () [] rfl (by decide) rfl (by first | decide | (unfold sp_in10; rw [if_neg (by omega)]) | (unfold sp_in10; rw [if_pos (by omega)])) (Nat.le_of_ble_eq_true rfl) (Nat.le_of_ble_eq_true rfl) dX9_doubt_31
    · skip
      refine lv_if_eq (tgt := 16) hx hb dX9_doubt_4 (by decide) (fun c_ => absurd c_ (by decide +kernel)) (fun _ => ?_)
      refine lv_aload_n hx hb dX9_doubt_7 rfl (lv_at hl 0 rfl) ?_
      refine lv_iload_n hx hb dX9_doubt_8 rfl (lv_at hl 1 rfl) ?_
      refine k_ci (wr := []) (k_rV hC hN hK hP hD (c43_X9_isDoubted l G cI cJ cB cZ a0 a1 a2 a3 a4 a5 a6 a7) [0] rfl (by decide) mi_X9_isDoubted in_X9_isDoubted se_X9_isDoubted wm_X9_122 9 0 rfl rfl rfl hl.1 rfl rfl (Nat.le_of_ble_eq_true rfl) ⟨(Nat.le_of_ble_eq_true rfl), (Nat.le_of_ble_eq_true rfl)⟩ dX9_doubt_9 ⟨(Nat.le_of_ble_eq_true rfl), (Nat.le_of_ble_eq_true rfl)⟩) hP hD hS hA [0] [] rfl rfl (by decide) (by decide) (fun r9 u9 H locs hp hP hD hS => ?_)
      have hP : va_P G cl [(a0, .inr (9, [.ref a1, .ref a2, .ref a3, .int 0, .int 0, .ref a4, .ref a5, .ref a6, .ref a7]))] H := hP
      have hD : va_D A [(a0, .inr (9, [.ref a1, .ref a2, .ref a3, .int 0, .int 0, .ref a4, .ref a5, .ref a6, .ref a7]))] := hD
      subst hp
      refine lv_iload_n hx hb dX9_doubt_12 rfl (lv_at hl 2 rfl) ?_
      refine lv_icmp_ne (tgt := 18) hx hb dX9_doubt_13 (by decide) (fun _ => ?_) (fun c_ => absurd c_ (by decide +kernel))
      refine lv_aload_n hx hb dX9_doubt_18 rfl (lv_at hl 0 rfl) ?_
      refine lv_dup hx hb dX9_doubt_19 rfl ?_
      refine k_get hC hK hP iX9 0 4 wf_X9_36 rfl (by decide) rfl rfl dX9_doubt_20 ?_
      refine lv_iconst (v := 1) hx hb dX9_doubt_23 (by decide) ?_
      refine lv_iload_n hx hb dX9_doubt_24 rfl (lv_at hl 1 rfl) ?_
      refine lv_ishl hx hb dX9_doubt_25 ?_
      refine k_i 64 (by decide +kernel) ?_
      refine lv_ixor hx hb dX9_doubt_26 ?_
      refine k_i 64 (by decide +kernel) ?_
      refine k_put hC hK hP hD hS iX9 tyX9_ok nmX9 0 4 wf_X9_36 rfl (by decide) rfl rfl rfl rfl (Nat.le_of_ble_eq_true rfl) dX9_doubt_27 (fun H locs hP hD hS => ?_)
      have hP : va_P G cl [(a0, .inr (9, [.ref a1, .ref a2, .ref a3, .int 0, .int 64, .ref a4, .ref a5, .ref a6, .ref a7]))] H := hP
      have hD : va_D A [(a0, .inr (9, [.ref a1, .ref a2, .ref a3, .int 0, .int 64, .ref a4, .ref a5, .ref a6, .ref a7]))] := hD
      refine lv_iconst (v := 1) hx hb dX9_doubt_30 (by decide) ?_
      exact k_zret hC hr hlk hK hP hD hS () [] rfl (by decide) rfl (by first | decide | (unfold sp_in10; rw [if_neg (by omega)]) | (unfold sp_in10; rw [if_pos (by omega)])) (Nat.le_of_ble_eq_true rfl) (Nat.le_of_ble_eq_true rfl) dX9_doubt_31
    · skip
      refine lv_if_eq (tgt := 16) hx hb dX9_doubt_4 (by decide) (fun c_ => absurd c_ (by decide +kernel)) (fun _ => ?_)
      refine lv_aload_n hx hb dX9_doubt_7 rfl (lv_at hl 0 rfl) ?_
      refine lv_iload_n hx hb dX9_doubt_8 rfl (lv_at hl 1 rfl) ?_
      refine k_ci (wr := []) (k_rV hC hN hK hP hD (c44_X9_isDoubted l G cI cJ cB cZ a0 a1 a2 a3 a4 a5 a6 a7) [0] rfl (by decide) mi_X9_isDoubted in_X9_isDoubted se_X9_isDoubted wm_X9_122 9 0 rfl rfl rfl hl.1 rfl rfl (Nat.le_of_ble_eq_true rfl) ⟨(Nat.le_of_ble_eq_true rfl), (Nat.le_of_ble_eq_true rfl)⟩ dX9_doubt_9 ⟨(Nat.le_of_ble_eq_true rfl), (Nat.le_of_ble_eq_true rfl)⟩) hP hD hS hA [0] [] rfl rfl (by decide) (by decide) (fun r10 u10 H locs hp hP hD hS => ?_)
      have hP : va_P G cl [(a0, .inr (9, [.ref a1, .ref a2, .ref a3, .int 0, .int 0, .ref a4, .ref a5, .ref a6, .ref a7]))] H := hP
      have hD : va_D A [(a0, .inr (9, [.ref a1, .ref a2, .ref a3, .int 0, .int 0, .ref a4, .ref a5, .ref a6, .ref a7]))] := hD
      subst hp
      refine lv_iload_n hx hb dX9_doubt_12 rfl (lv_at hl 2 rfl) ?_
      refine lv_icmp_ne (tgt := 18) hx hb dX9_doubt_13 (by decide) (fun _ => ?_) (fun c_ => absurd c_ (by decide +kernel))
      refine lv_aload_n hx hb dX9_doubt_18 rfl (lv_at hl 0 rfl) ?_
      refine lv_dup hx hb dX9_doubt_19 rfl ?_
      refine k_get hC hK hP iX9 0 4 wf_X9_36 rfl (by decide) rfl rfl dX9_doubt_20 ?_
      refine lv_iconst (v := 1) hx hb dX9_doubt_23 (by decide) ?_
      refine lv_iload_n hx hb dX9_doubt_24 rfl (lv_at hl 1 rfl) ?_
      refine lv_ishl hx hb dX9_doubt_25 ?_
      refine k_i 128 (by decide +kernel) ?_
      refine lv_ixor hx hb dX9_doubt_26 ?_
      refine k_i 128 (by decide +kernel) ?_
      refine k_put hC hK hP hD hS iX9 tyX9_ok nmX9 0 4 wf_X9_36 rfl (by decide) rfl rfl rfl rfl (Nat.le_of_ble_eq_true rfl) dX9_doubt_27 (fun H locs hP hD hS => ?_)
      have hP : va_P G cl [(a0, .inr (9, [.ref a1, .ref a2, .ref a3, .int 0, .int 128, .ref a4, .ref a5, .ref a6, .ref a7]))] H := hP
      have hD : va_D A [(a0, .inr (9, [.ref a1, .ref a2, .ref a3, .int 0, .int 128, .ref a4, .ref a5, .ref a6, .ref a7]))] := hD
      refine lv_iconst (v := 1) hx hb dX9_doubt_30 (by decide) ?_
      exact k_zret hC hr hlk hK hP hD hS () [] rfl (by decide) rfl (by first | decide | (unfold sp_in10; rw [if_neg (by omega)]) | (unfold sp_in10; rw [if_pos (by omega)])) (Nat.le_of_ble_eq_true rfl) (Nat.le_of_ble_eq_true rfl) dX9_doubt_31
    · skip
      refine lv_if_eq (tgt := 16) hx hb dX9_doubt_4 (by decide) (fun c_ => absurd c_ (by decide +kernel)) (fun _ => ?_)
      refine lv_aload_n hx hb dX9_doubt_7 rfl (lv_at hl 0 rfl) ?_
      refine lv_iload_n hx hb dX9_doubt_8 rfl (lv_at hl 1 rfl) ?_
      refine k_ci (wr := []) (k_rV hC hN hK hP hD (c45_X9_isDoubted l G cI cJ cB cZ a0 a1 a2 a3 a4 a5 a6 a7) [0] rfl (by decide) mi_X9_isDoubted in_X9_isDoubted se_X9_isDoubted wm_X9_122 9 0 rfl rfl rfl hl.1 rfl rfl (Nat.le_of_ble_eq_true rfl) ⟨(Nat.le_of_ble_eq_true rfl), (Nat.le_of_ble_eq_true rfl)⟩ dX9_doubt_9 ⟨(Nat.le_of_ble_eq_true rfl), (Nat.le_of_ble_eq_true rfl)⟩) hP hD hS hA [0] [] rfl rfl (by decide) (by decide) (fun r11 u11 H locs hp hP hD hS => ?_)
      have hP : va_P G cl [(a0, .inr (9, [.ref a1, .ref a2, .ref a3, .int 0, .int 0, .ref a4, .ref a5, .ref a6, .ref a7]))] H := hP
      have hD : va_D A [(a0, .inr (9, [.ref a1, .ref a2, .ref a3, .int 0, .int 0, .ref a4, .ref a5, .ref a6, .ref a7]))] := hD
      subst hp
      refine lv_iload_n hx hb dX9_doubt_12 rfl (lv_at hl 2 rfl) ?_
      refine lv_icmp_ne (tgt := 18) hx hb dX9_doubt_13 (by decide) (fun _ => ?_) (fun c_ => absurd c_ (by decide +kernel))
      refine lv_aload_n hx hb dX9_doubt_18 rfl (lv_at hl 0 rfl) ?_
      refine lv_dup hx hb dX9_doubt_19 rfl ?_
      refine k_get hC hK hP iX9 0 4 wf_X9_36 rfl (by decide) rfl rfl dX9_doubt_20 ?_
      refine lv_iconst (v := 1) hx hb dX9_doubt_23 (by decide) ?_
      refine lv_iload_n hx hb dX9_doubt_24 rfl (lv_at hl 1 rfl) ?_
      refine lv_ishl hx hb dX9_doubt_25 ?_
      refine k_i 256 (by decide +kernel) ?_
      refine lv_ixor hx hb dX9_doubt_26 ?_
      refine k_i 256 (by decide +kernel) ?_
      refine k_put hC hK hP hD hS iX9 tyX9_ok nmX9 0 4 wf_X9_36 rfl (by decide) rfl rfl rfl rfl (Nat.le_of_ble_eq_true rfl) dX9_doubt_27 (fun H locs hP hD hS => ?_)
      have hP : va_P G cl [(a0, .inr (9, [.ref a1, .ref a2, .ref a3, .int 0, .int 256, .ref a4, .ref a5, .ref a6, .ref a7]))] H := hP
      have hD : va_D A [(a0, .inr (9, [.ref a1, .ref a2, .ref a3, .int 0, .int 256, .ref a4, .ref a5, .ref a6, .ref a7]))] := hD
      refine lv_iconst (v := 1) hx hb dX9_doubt_30 (by decide) ?_
      exact k_zret hC hr hlk hK hP hD hS () [] rfl (by decide) rfl (by first | decide | (unfold sp_in10; rw [if_neg (by omega)]) | (unfold sp_in10; rw [if_pos (by omega)])) (Nat.le_of_ble_eq_true rfl) (Nat.le_of_ble_eq_true rfl) dX9_doubt_31
    · skip
      refine lv_if_eq (tgt := 16) hx hb dX9_doubt_4 (by decide) (fun c_ => absurd c_ (by decide +kernel)) (fun _ => ?_)
      refine lv_aload_n hx hb dX9_doubt_7 rfl (lv_at hl 0 rfl) ?_
      refine lv_iload_n hx hb dX9_doubt_8 rfl (lv_at hl 1 rfl) ?_
      refine k_ci (wr := []) (k_rV hC hN hK hP hD (c46_X9_isDoubted l G cI cJ cB cZ a0 a1 a2 a3 a4 a5 a6 a7) [0] rfl (by decide) mi_X9_isDoubted in_X9_isDoubted se_X9_isDoubted wm_X9_122 9 0 rfl rfl rfl hl.1 rfl rfl (Nat.le_of_ble_eq_true rfl) ⟨(Nat.le_of_ble_eq_true rfl), (Nat.le_of_ble_eq_true rfl)⟩ dX9_doubt_9 ⟨(Nat.le_of_ble_eq_true rfl), (Nat.le_of_ble_eq_true rfl)⟩) hP hD hS hA [0] [] rfl rfl (by decide) (by decide) (fun r12 u12 H locs hp hP hD hS => ?_)
      have hP : va_P G cl [(a0, .inr (9, [.ref a1, .ref a2, .ref a3, .int 0, .int 0, .ref a4, .ref a5, .ref a6, .ref a7]))] H := hP
      have hD : va_D A [(a0, .inr (9, [.ref a1, .ref a2, .ref a3, .int 0, .int 0, .ref a4, .ref a5, .ref a6, .ref a7]))] := hD
      subst hp
      refine lv_iload_n hx hb dX9_doubt_12 rfl (lv_at hl 2 rfl) ?_
      refine lv_icmp_ne (tgt := 18) hx hb dX9_doubt_13 (by decide) (fun _ => ?_) (fun c_ => absurd c_ (by decide +kernel))
      refine lv_aload_n hx hb dX9_doubt_18 rfl (lv_at hl 0 rfl) ?_
      refine lv_dup hx hb dX9_doubt_19 rfl ?_
      refine k_get hC hK hP iX9 0 4 wf_X9_36 rfl (by decide) rfl rfl dX9_doubt_20 ?_
      refine lv_iconst (v := 1) hx hb dX9_doubt_23 (by decide) ?_
      refine lv_iload_n hx hb dX9_doubt_24 rfl (lv_at hl 1 rfl) ?_
      refine lv_ishl hx hb dX9_doubt_25 ?_
      refine k_i 512 (by decide +kernel) ?_
      refine lv_ixor hx hb dX9_doubt_26 ?_
      refine k_i 512 (by decide +kernel) ?_
      refine k_put hC hK hP hD hS iX9 tyX9_ok nmX9 0 4 wf_X9_36 rfl (by decide) rfl rfl rfl rfl (Nat.le_of_ble_eq_true rfl) dX9_doubt_27 (fun H locs hP hD hS => ?_)
      have hP : va_P G cl [(a0, .inr (9, [.ref a1, .ref a2, .ref a3, .int 0, .int 512, .ref a4, .ref a5, .ref a6, .ref a7]))] H := hP
      have hD : va_D A [(a0, .inr (9, [.ref a1, .ref a2, .ref a3, .int 0, .int 512, .ref a4, .ref a5, .ref a6, .ref a7]))] := hD
      refine lv_iconst (v := 1) hx hb dX9_doubt_30 (by decide) ?_
      exact k_zret hC hr hlk hK hP hD hS () [] rfl (by decide) rfl (by first | decide | (unfold sp_in10; rw [if_neg (by omega)]) | (unfold sp_in10; rw [if_pos (by omega)])) (Nat.le_of_ble_eq_true rfl) (Nat.le_of_ble_eq_true rfl) dX9_doubt_31
  · skip
    refine lv_if_eq (tgt := 16) hx hb dX9_doubt_4 (by decide) (fun _ => ?_) (fun c_ => absurd (by decide +kernel) c_)
    refine lv_iconst (v := 0) hx hb dX9_doubt_16 (by decide) ?_
    exact k_zret hC hr hlk hK hP hD hS () [] rfl (by decide) rfl (by first | decide | (unfold sp_in10; rw [if_neg (by omega)]) | (unfold sp_in10; rw [if_pos (by omega)])) (Nat.le_of_ble_eq_true rfl) (Nat.le_of_ble_eq_true rfl) dX9_doubt_17

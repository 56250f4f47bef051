set_option maxHeartbeats 8000000 in
set_option maxRecDepth 100000 in
theorem law_loop {p : Program} {l : Launch} {e : Env} {s : State} {m : MethodId} {below : List Frame} {meth : Method} {c : Code} {b L ax am : Nat} {xs : Nat → Int32} {A : Nat → Prop} {G : va_G} {cI cJ cB cZ : ClassId} (hC : CallFix p m c code 4 s #[Value.ref b] gw R_law) (hr : meth.sig.returnType = ret) (hlk : meth.locks = false) (hN : NW s) (hZ : SW A s s.heap) (hK : va_K G cl (TY cI cJ cB cZ) s) (hX : va_X b L xs s s.heap) (hbl : b < s.heap.size) (hA : ∀ q, s.heap.size ≤ q → A q) (hbA : ¬ A b) (hfo : ∀ q, A q → s.heap.size ≤ q) (hL : L ≤ 3072) : ∀ n, LI p l e s m below meth c b L A G cI cJ cB cZ ax am n := by
  obtain ⟨hx, hb, hml, hown, hts⟩ := id hC
  intro n
  induction n with
  | zero => unfold LI; intro g tm wx wm i H locs ls hXI hMJ hi0 hiL hm; exfalso; omega
  | succ n ih =>
    unfold LI
    intro g tm wx wm i H locs ls hXI hMJ hi0 hiL hm hP hD hS hl
    refine lv_iload_n hx hb dL_law_18 rfl (lv_at hl 0 rfl) ?_
    refine lv_aload_n hx hb dL_law_19 rfl (lv_at hl 3 rfl) ?_
    refine va_slen hx hb hX hbl hbA hS dL_law_20 ?_
    have eL : (Int32.ofNat L).toInt = (L : Int) := ofNat_i (by omega)
    refine lv_bipush (v := 6) hx hb dL_law_21 (by decide) ?_
    refine lv_isub hx hb dL_law_23 ?_
    refine t_i (fun q => q.toInt = (L : Int) - 6) (by rw [sub_i (by rw [eL]; show (-2147483648 : Int) ≤ (L : Int) - 6; omega) (by rw [eL]; show (L : Int) - 6 ≤ (2147483647 : Int); omega), eL]; rfl) (fun z tz => ?_)
    refine lv_icmp_gt (tgt := 1434) hx hb dL_law_24 (by decide) (fun c1 => ?_) (fun c1 => ?_)
    · refine lv_iconst (v := 1) hx hb dL_law_1434 (by decide) ?_
      refine va_forget (fun q hq => hfo _ (hS.2.2 q hq)) ?_
      refine W.widen (k := 600000) (n := 7302250) (gr_w0 hXI.g11).1 (gr_w0 hXI.g11).2 ?_
      exact lw_ret hx hb hr hlk dL_law_1435
    have d1 : i.toInt ≤ z.toInt := fa_nlt c1
    have hi6 : i.toInt + 6 ≤ (L : Int) := by omega
    have hm2 : (L : Int) + 6 - i.toInt < (n : Int) + 1 := by omega
    refine lv_aload_n hx hb dL_law_27 rfl (lv_at hl 3 rfl) ?_
    refine lv_iload_n hx hb dL_law_28 rfl (lv_at hl 0 rfl) ?_
    refine va_sld hx hb hX hbl hbA hS (i := i) (vp_in_iff.mpr ⟨by omega, by omega⟩) dL_law_29 ?_
    refine lv_bipush (v := 31) hx hb dL_law_30 (by decide) ?_
    refine lv_iand hx hb dL_law_32 ?_
    obtain ⟨j, hj, ej⟩ := pk_andE (xs i.toNatClampNeg) (m := 31) 5 (by decide)
    refine k_i (nI j) ej ?_
    clear ej
    rcases (show j = 0 ∨ j = 1 ∨ j = 2 ∨ j = 3 ∨ j = 4 ∨ j = 5 ∨ j = 6 ∨ j = 7 ∨ j = 8 ∨ j = 9 ∨ j = 10 ∨ j = 11 ∨ j = 12 ∨ j = 13 ∨ j = 14 ∨ j = 15 ∨ j = 16 ∨ j = 17 ∨ j = 18 ∨ j = 19 ∨ j = 20 ∨ j = 21 ∨ j = 22 ∨ j = 23 ∨ j = 24 ∨ j = 25 ∨ j = 26 ∨ j = 27 ∨ j = 28 ∨ j = 29 ∨ j = 30 ∨ j = 31 by omega) with rfl | rfl | rfl | rfl | rfl | rfl | rfl | rfl | rfl | rfl | rfl | rfl | rfl | rfl | rfl | rfl | rfl | rfl | rfl | rfl | rfl | rfl | rfl | rfl | rfl | rfl | rfl | rfl | rfl | rfl | rfl | rfl
    · refine lv_tableIn (tgt := 168) hx hb dL_law_33 (by decide +kernel) (by decide +kernel) rfl (by decide) ?_
      exact law_feed hC hr hlk hN hZ hK hX hbl hA hbA hfo ih g tm wx wm i H locs ls hXI hMJ hi0 hiL hL hm2 hi6 hP hD hS hl
    · refine lv_tableIn (tgt := 231) hx hb dL_law_33 (by decide +kernel) (by decide +kernel) rfl (by decide) ?_
      exact law_end hC hr hlk hN hZ hK hX hbl hA hbA hfo ih g tm wx wm i H locs ls hXI hMJ hi0 hiL hL hm2 hi6 hP hD hS hl
    · refine lv_tableIn (tgt := 254) hx hb dL_law_33 (by decide +kernel) (by decide +kernel) rfl (by decide) ?_
      exact law_village hC hr hlk hN hZ hK hX hbl hA hbA hfo ih g tm wx wm i H locs ls hXI hMJ hi0 hiL hL hm2 hi6 hP hD hS hl
    · refine lv_tableIn (tgt := 267) hx hb dL_law_33 (by decide +kernel) (by decide +kernel) rfl (by decide) ?_
      exact law_fault hC hr hlk hN hZ hK hX hbl hA hbA hfo ih g tm wx wm i H locs ls hXI hMJ hi0 hiL hL hm2 hi6 hP hD hS hl
    · refine lv_tableIn (tgt := 290) hx hb dL_law_33 (by decide +kernel) (by decide +kernel) rfl (by decide) ?_
      exact law_weighed hC hr hlk hN hZ hK hX hbl hA hbA hfo ih g tm wx wm i H locs ls hXI hMJ hi0 hiL hL hm2 hi6 hP hD hS hl
    · refine lv_tableIn (tgt := 353) hx hb dL_law_33 (by decide +kernel) (by decide +kernel) rfl (by decide) ?_
      exact law_untell hC hr hlk hN hZ hK hX hbl hA hbA hfo ih g tm wx wm i H locs ls hXI hMJ hi0 hiL hL hm2 hi6 hP hD hS hl
    · refine lv_tableIn (tgt := 376) hx hb dL_law_33 (by decide +kernel) (by decide +kernel) rfl (by decide) ?_
      exact law_later hC hr hlk hN hZ hK hX hbl hA hbA hfo ih g tm wx wm i H locs ls hXI hMJ hi0 hiL hL hm2 hi6 hP hD hS hl
    · refine lv_tableIn (tgt := 399) hx hb dL_law_33 (by decide +kernel) (by decide +kernel) rfl (by decide) ?_
      exact law_doubt hC hr hlk hN hZ hK hX hbl hA hbA hfo ih g tm wx wm i H locs ls hXI hMJ hi0 hiL hL hm2 hi6 hP hD hS hl
    · refine lv_tableIn (tgt := 448) hx hb dL_law_33 (by decide +kernel) (by decide +kernel) rfl (by decide) ?_
      exact law_fits hC hr hlk hN hZ hK hX hbl hA hbA hfo ih g tm wx wm i H locs ls hXI hMJ hi0 hiL hL hm2 hi6 hP hD hS hl
    · refine lv_tableIn (tgt := 471) hx hb dL_law_33 (by decide +kernel) (by decide +kernel) rfl (by decide) ?_
      exact law_fit hC hr hlk hN hZ hK hX hbl hA hbA hfo ih g tm wx wm i H locs ls hXI hMJ hi0 hiL hL hm2 hi6 hP hD hS hl
    · refine lv_tableIn (tgt := 514) hx hb dL_law_33 (by decide +kernel) (by decide +kernel) rfl (by decide) ?_
      exact law_span hC hr hlk hN hZ hK hX hbl hA hbA hfo ih g tm wx wm i H locs ls hXI hMJ hi0 hiL hL hm2 hi6 hP hD hS hl
    · refine lv_tableIn (tgt := 573) hx hb dL_law_33 (by decide +kernel) (by decide +kernel) rfl (by decide) ?_
      exact law_isFalse hC hr hlk hN hZ hK hX hbl hA hbA hfo ih g tm wx wm i H locs ls hXI hMJ hi0 hiL hL hm2 hi6 hP hD hS hl
    · refine lv_tableIn (tgt := 606) hx hb dL_law_33 (by decide +kernel) (by decide +kernel) rfl (by decide) ?_
      exact law_fewest hC hr hlk hN hZ hK hX hbl hA hbA hfo ih g tm wx wm i H locs ls hXI hMJ hi0 hiL hL hm2 hi6 hP hD hS hl
    · refine lv_tableIn (tgt := 629) hx hb dL_law_33 (by decide +kernel) (by decide +kernel) rfl (by decide) ?_
      exact law_sets hC hr hlk hN hZ hK hX hbl hA hbA hfo ih g tm wx wm i H locs ls hXI hMJ hi0 hiL hL hm2 hi6 hP hD hS hl
    · refine lv_tableIn (tgt := 652) hx hb dL_law_33 (by decide +kernel) (by decide +kernel) rfl (by decide) ?_
      exact law_set hC hr hlk hN hZ hK hX hbl hA hbA hfo ih g tm wx wm i H locs ls hXI hMJ hi0 hiL hL hm2 hi6 hP hD hS hl
    · refine lv_tableIn (tgt := 685) hx hb dL_law_33 (by decide +kernel) (by decide +kernel) rfl (by decide) ?_
      exact law_next hC hr hlk hN hZ hK hX hbl hA hbA hfo ih g tm wx wm i H locs ls hXI hMJ hi0 hiL hL hm2 hi6 hP hD hS hl
    · refine lv_tableIn (tgt := 718) hx hb dL_law_33 (by decide +kernel) (by decide +kernel) rfl (by decide) ?_
      exact law_parts hC hr hlk hN hZ hK hX hbl hA hbA hfo ih g tm wx wm i H locs ls hXI hMJ hi0 hiL hL hm2 hi6 hP hD hS hl
    · refine lv_tableIn (tgt := 761) hx hb dL_law_33 (by decide +kernel) (by decide +kernel) rfl (by decide) ?_
      exact law_clear hC hr hlk hN hZ hK hX hbl hA hbA hfo ih g tm wx wm i H locs ls hXI hMJ hi0 hiL hL hm2 hi6 hP hD hS hl
    · refine lv_tableIn (tgt := 804) hx hb dL_law_33 (by decide +kernel) (by decide +kernel) rfl (by decide) ?_
      exact law_arm hC hr hlk hN hZ hK hX hbl hA hbA hfo ih g tm wx wm i H locs ls hXI hMJ hi0 hiL hL hm2 hi6 hP hD hS hl
    · refine lv_tableIn (tgt := 827) hx hb dL_law_33 (by decide +kernel) (by decide +kernel) rfl (by decide) ?_
      exact law_swap hC hr hlk hN hZ hK hX hbl hA hbA hfo ih g tm wx wm i H locs ls hXI hMJ hi0 hiL hL hm2 hi6 hP hD hS hl
    · refine lv_tableIn (tgt := 870) hx hb dL_law_33 (by decide +kernel) (by decide +kernel) rfl (by decide) ?_
      exact law_owed hC hr hlk hN hZ hK hX hbl hA hbA hfo ih g tm wx wm i H locs ls hXI hMJ hi0 hiL hL hm2 hi6 hP hD hS hl
    · refine lv_tableIn (tgt := 929) hx hb dL_law_33 (by decide +kernel) (by decide +kernel) rfl (by decide) ?_
      exact law_debt hC hr hlk hN hZ hK hX hbl hA hbA hfo ih g tm wx wm i H locs ls hXI hMJ hi0 hiL hL hm2 hi6 hP hD hS hl
    · refine lv_tableIn (tgt := 988) hx hb dL_law_33 (by decide +kernel) (by decide +kernel) rfl (by decide) ?_
      exact law_joined hC hr hlk hN hZ hK hX hbl hA hbA hfo ih g tm wx wm i H locs ls hXI hMJ hi0 hiL hL hm2 hi6 hP hD hS hl
    · refine lv_tableIn (tgt := 1037) hx hb dL_law_33 (by decide +kernel) (by decide +kernel) rfl (by decide) ?_
      exact law_lieYear hC hr hlk hN hZ hK hX hbl hA hbA hfo ih g tm wx wm i H locs ls hXI hMJ hi0 hiL hL hm2 hi6 hP hD hS hl
    · refine lv_tableIn (tgt := 1070) hx hb dL_law_33 (by decide +kernel) (by decide +kernel) rfl (by decide) ?_
      exact law_goods hC hr hlk hN hZ hK hX hbl hA hbA hfo ih g tm wx wm i H locs ls hXI hMJ hi0 hiL hL hm2 hi6 hP hD hS hl
    · refine lv_tableIn (tgt := 1165) hx hb dL_law_33 (by decide +kernel) (by decide +kernel) rfl (by decide) ?_
      exact law_twice hC hr hlk hN hZ hK hX hbl hA hbA hfo ih g tm wx wm i H locs ls hXI hMJ hi0 hiL hL hm2 hi6 hP hD hS hl
    · refine lv_tableIn (tgt := 1244) hx hb dL_law_33 (by decide +kernel) (by decide +kernel) rfl (by decide) ?_
      exact law_ratio hC hr hlk hN hZ hK hX hbl hA hbA hfo ih g tm wx wm i H locs ls hXI hMJ hi0 hiL hL hm2 hi6 hP hD hS hl
    · refine lv_tableIn (tgt := 1313) hx hb dL_law_33 (by decide +kernel) (by decide +kernel) rfl (by decide) ?_
      exact law_sum hC hr hlk hN hZ hK hX hbl hA hbA hfo ih g tm wx wm i H locs ls hXI hMJ hi0 hiL hL hm2 hi6 hP hD hS hl
    · refine lv_tableIn (tgt := 1382) hx hb dL_law_33 (by decide +kernel) (by decide +kernel) rfl (by decide) ?_
      exact law_thumbs hC hr hlk hN hZ hK hX hbl hA hbA hfo ih g tm wx wm i H locs ls hXI hMJ hi0 hiL hL hm2 hi6 hP hD hS hl
    · refine lv_tableIn (tgt := 1405) hx hb dL_law_33 (by decide +kernel) (by decide +kernel) rfl (by decide) ?_
      exact law_about hC hr hlk hN hZ hK hX hbl hA hbA hfo ih g tm wx wm i H locs ls hXI hMJ hi0 hiL hL hm2 hi6 hP hD hS hl
    · refine lv_tableOut (tgt := 1428) hx hb dL_law_33 (by decide +kernel) (by decide) ?_
      exact law_skip hC hr hlk hN hZ hK hX hbl hA hbA hfo ih g tm wx wm i H locs ls hXI hMJ hi0 hiL hL hm2 hi6 hP hD hS hl
    · refine lv_tableOut (tgt := 1428) hx hb dL_law_33 (by decide +kernel) (by decide) ?_
      exact law_skip hC hr hlk hN hZ hK hX hbl hA hbA hfo ih g tm wx wm i H locs ls hXI hMJ hi0 hiL hL hm2 hi6 hP hD hS hl


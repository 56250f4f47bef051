-- ===== end of PART A; then your names; then what follows =====
/-! THE CLAIM OUT OF ONE WALK OF THE LAW'S BODY. Your part is whole_start (and what it stands on); all else here is the same for every law, but numbers. -/
def R_law : String := "StoneTrustLaw"
def lw_P (b : Addr) (xs : List Int32) (args : Array Value) (s : State) : Prop := args = #[.ref b] ∧ s.IntsAt b xs ∧ xs.length ≤ 6 ∧ (Jvm.Cond.and given_1 narrow_1).before args s = true
def lw_Q (_ : Array Value) (s : State) (o : Outcome) (t : State) : Prop := o = .returned (some (.int 1)) ∧ Framed s o t [] 600000 7302250
def lw_Z (below : List Frame) (a : Array Value) (s : State) : State → Prop := fun t => ∃ o, t.status = .running ∧ Ended t below o ∧ lw_Q a s o t
/-- the law's own end, with 1 on the stack, nothing written that was there before, its room as the claim has it -/
theorem lw_ret {p : Program} {l : Launch} {e : Env} {s : State} {m : MethodId} {below : List Frame} {meth : Method} {c : Code} {b : Nat} (hx : p.tables.exec = Jvm.exec) (hb : c.code = code) (hr : meth.sig.returnType = ret) (hlocks : meth.locks = false) {pc : Nat} {H : Heap} {ls : Array Slot} (hdg : decode code pc = .ok (.ireturn, 1)) : W p l e room_1 s m #[Value.ref b] below meth c H [] 600000 7302250 (lw_Z below #[Value.ref b] s) (F0 m pc ls [.int 1]) := by
  intro T hT X
  obtain ⟨fs, hret, hrun, hended, hW, hframe⟩ := X.leave (v := some (.int 1)) (hlocks := hlocks) (fun h => by rw [hr] at h; cases h)
  have hmeth' : T.vm.method? m = some meth := X.method'
  refine ⟨T.setFrames fs, ?_, .returned (some (.int 1)), hrun, hended, rfl, ⟨_, rfl⟩, hW, hframe⟩
  jvm_step X.here [X.here.top, hx, hb, hdg, hmeth', hr, ret, narrow_b1]
  (try refine ⟨rfl, ?_⟩); (try refine ⟨rfl, ?_⟩)
  first | (intro acts; rw [hret _ acts rfl rfl rfl]) | rw [hret _ _ rfl rfl rfl]
  exact Steps.refl _
/-- what holds at the law's entry: the machine, the code, the tables' words (any of lw_tbl by 'hts w (by decide +kernel)'), the script of L ints xs at the cell b, what the Statement gives of the start (any of its parts by flat_of_before) -/
def lw_At (p : Program) (s : State) (m : MethodId) (meth : Method) (c : Code) (b L : Nat) (xs : Nat → Int32) : Prop :=
  p.tables.exec = Jvm.exec ∧ c.code = code ∧ meth.sig.returnType = ret ∧ c.maxLocals = 4 ∧ s.vm.findClass R_law = some m.cls ∧ (∀ w ∈ lw_tbl, w.before #[Value.ref b] s = true) ∧ va_X b L xs s s.heap ∧ b < s.heap.size ∧ meth.locks = false ∧ (Jvm.Cond.and given_1 narrow_1).before #[Value.ref b] s = true

set_option maxHeartbeats 4000000 in
set_option maxRecDepth 100000 in
theorem law_tail {p : Program} {l : Launch} {e : Env} {s : State} {m : MethodId} {below : List Frame} {meth : Method} {c : Code} {b : Nat} {xs : Nat → Int32} {A : Nat → Prop} {H : Heap} {locs : List Loc} {ls : Array Slot} {xm xx : Nat} {cells slots : Nat} (hC : CallFix p m c code 4 s #[Value.ref b] gw R_law) (hr : meth.sig.returnType = ret) (hlk : meth.locks = false) (hX : va_X b 6 xs s s.heap) (hbl : b < s.heap.size) (hbA : ¬ A b) (hfo : ∀ q, A q → s.heap.size ≤ q) (hS : va_S A s.heap H locs) (hl : lv_has ls 4 [(3, .int 0), (2, .ref xm), (1, .ref xx), (0, .ref b)]) (hc : cells ≤ 600000) (hs : slots ≤ 7302250) : W p l e room_1 s m #[Value.ref b] below meth c H locs cells slots (lw_Z below #[Value.ref b] s) (F0 m 1428 ls []) := by
  obtain ⟨hx, hb, hml, hown, hts⟩ := id hC
  refine lv_iinc (v := 6) (lv' := [(3, .int 6), (2, .ref xm), (1, .ref xx), (0, .ref b)]) hx hb dL_law_1428 hl (k := 0) rfl (by decide +kernel) (by decide) rfl (fun ls hl => ?_)
  refine lv_goto (tgt := 18) hx hb dL_law_1431 (by decide) ?_
  refine lv_iload_n hx hb dL_law_18 rfl (lv_at hl 0 rfl) ?_
  refine lv_aload_n hx hb dL_law_19 rfl (lv_at hl 3 rfl) ?_
  refine va_slen hx hb hX hbl hbA hS dL_law_20 ?_
  refine lv_bipush (v := 6) hx hb dL_law_21 (by decide) ?_
  refine lv_isub hx hb dL_law_23 ?_
  refine k_i 0 (by decide +kernel) ?_
  refine lv_icmp_gt (tgt := 1434) hx hb dL_law_24 (by decide) (fun _ => ?_) (fun c_ => absurd (by decide +kernel) c_)
  refine lv_iconst (v := 1) hx hb dL_law_1434 (by decide) ?_
  refine va_forget (fun q hq => hfo _ (hS.2.2 q hq)) ?_
  refine W.widen (k := 600000) (n := 7302250) hc hs ?_
  exact lw_ret hx hb hr hlk dL_law_1435
set_option maxRecDepth 100000 in
theorem wm_L_13 : Cond.methodLink RL 13 yX9_feed ∈ gw := gm (List.mem_of_getElem? (i := 567) (by decide +kernel)) rfl
set_option maxRecDepth 100000 in
theorem mi_X9_feed : MI yX9_feed cX9_feed 7 (some .int) 5 := ⟨gm (List.mem_of_getElem? (i := 570) rfl) rfl, gm (List.mem_of_getElem? (i := 112) (by decide +kernel)) rfl, by decide, by decide, by decide +kernel⟩
set_option maxRecDepth 100000 in
theorem in_X9_feed : Cond.instanceMethod yX9_feed ∈ gw := gm (List.mem_of_getElem? (i := 568) (by decide +kernel)) rfl
set_option maxRecDepth 100000 in
theorem se_X9_feed : Cond.selects yX9_feed.cls yX9_feed yX9_feed ∈ gw := gm (List.mem_of_getElem? (i := 569) (by decide +kernel)) rfl
set_option maxRecDepth 100000 in
theorem wm_L_17 : Cond.methodLink RL 17 yX10_feed ∈ gw := gm (List.mem_of_getElem? (i := 1858) (by decide +kernel)) rfl
set_option maxRecDepth 100000 in
theorem mi_X10_feed : MI yX10_feed cX10_feed 8 (some .int) 5 := ⟨gm (List.mem_of_getElem? (i := 1861) rfl) rfl, gm (List.mem_of_getElem? (i := 124) (by decide +kernel)) rfl, by decide, by decide, by decide +kernel⟩
set_option maxRecDepth 100000 in
theorem in_X10_feed : Cond.instanceMethod yX10_feed ∈ gw := gm (List.mem_of_getElem? (i := 1859) (by decide +kernel)) rfl
set_option maxRecDepth 100000 in
theorem se_X10_feed : Cond.selects yX10_feed.cls yX10_feed yX10_feed ∈ gw := gm (List.mem_of_getElem? (i := 1860) (by decide +kernel)) rfl
set_option maxHeartbeats 4000000 in
set_option maxRecDepth 100000 in
theorem law_feed {p : Program} {l : Launch} {e : Env} {s : State} {m : MethodId} {below : List Frame} {meth : Method} {c : Code} {b : Nat} {xs : Nat → Int32} {A : Nat → Prop} {H : Heap} {locs : List Loc} {ls : Array Slot} {G : va_G} {cI cJ cB cZ : ClassId} (a0 a1 a2 a3 a4 a5 a6 a7 a8 a9 a10 a11 a12 a13 a14 a15 a16 a17 a18 a19 a20 a21 a22 a23 a24 a25 a26 a27 a28 a29 a30 a31 a32 a33 a34 a35 a36 a37 a38 a39 a40 a41 a42 a43 a44 a45 a46 a47 a48 a49 a50 a51 a52 a53 : Nat) (hC : CallFix p m c code 4 s #[Value.ref b] gw R_law) (hr : meth.sig.returnType = ret) (hlk : meth.locks = false) (hN : NW s) (hK : va_K G cl (TY cI cJ cB cZ) s) (hX : va_X b 6 xs s s.heap) (hbl : b < s.heap.size) (hA : ∀ q, s.heap.size ≤ q → A q) (hbA : ¬ A b) (hfo : ∀ q, A q → s.heap.size ≤ q) (hP : va_P G cl [(a0, .inr (9, [.ref a1, .ref a2, .ref a3, .int 0, .int 0, .ref a4, .ref a5, .ref a6, .ref a7])), (a2, .inr (2, [.ref a8, .ref a9, .int 0, .int 0, .int 0, .int 0, .int 0, .int (-1)])), (a8, .inr (5, [.ref a10, .int 0, .int 0, .int 0, .int 0, .long 0, .int 0])), (a10, .inl (cB, 1300, .inl (fun _ => 0))), (a11, .inr (10, [.ref a12, .ref a13, .int 0, .int 0, .int 0, .int (-1), .int 0, .int 0, .int 0, .int 0, .long 0, .ref a14, .ref a15, .ref a16, .ref a17, .ref a18, .ref a19, .ref a20, .ref a21, .ref a22, .ref a23, .ref a24, .ref a25, .ref a26, .ref a27, .ref a28, .ref a29, .ref a30, .ref a31, .ref a32, .ref a33, .ref a34, .ref a35, .ref a36, .ref a37, .ref a38, .ref a39, .ref a40, .ref a41, .ref a42, .int 0, .int 0, .ref a43, .ref a44, .int 0, .int 0, .int 0, .int 0, .ref a45, .int 0, .ref a46, .ref a47, .ref a48, .int 0, .int 0, .int 0, .int 0, .int 0, .int 0, .int 0, .int 0, .ref a49, .int 0, .ref a50, .ref a51, .ref a52, .ref a53, .int 0, .int 0])), (a12, .inl (cB, 1320, .inl (fun _ => 0)))] H) (hD : va_D A [(a0, .inr (9, [.ref a1, .ref a2, .ref a3, .int 0, .int 0, .ref a4, .ref a5, .ref a6, .ref a7])), (a2, .inr (2, [.ref a8, .ref a9, .int 0, .int 0, .int 0, .int 0, .int 0, .int (-1)])), (a8, .inr (5, [.ref a10, .int 0, .int 0, .int 0, .int 0, .long 0, .int 0])), (a10, .inl (cB, 1300, .inl (fun _ => 0))), (a11, .inr (10, [.ref a12, .ref a13, .int 0, .int 0, .int 0, .int (-1), .int 0, .int 0, .int 0, .int 0, .long 0, .ref a14, .ref a15, .ref a16, .ref a17, .ref a18, .ref a19, .ref a20, .ref a21, .ref a22, .ref a23, .ref a24, .ref a25, .ref a26, .ref a27, .ref a28, .ref a29, .ref a30, .ref a31, .ref a32, .ref a33, .ref a34, .ref a35, .ref a36, .ref a37, .ref a38, .ref a39, .ref a40, .ref a41, .ref a42, .int 0, .int 0, .ref a43, .ref a44, .int 0, .int 0, .int 0, .int 0, .ref a45, .int 0, .ref a46, .ref a47, .ref a48, .int 0, .int 0, .int 0, .int 0, .int 0, .int 0, .int 0, .int 0, .ref a49, .int 0, .ref a50, .ref a51, .ref a52, .ref a53, .int 0, .int 0])), (a12, .inl (cB, 1320, .inl (fun _ => 0)))]) (hS : va_S A s.heap H locs) (hl : lv_has ls 4 [(3, .int 0), (2, .ref a11), (1, .ref a0), (0, .ref b)]) : W p l e room_1 s m #[Value.ref b] below meth c H locs 1000 1000000 (lw_Z below #[Value.ref b] s) (F0 m 168 ls []) := by
  obtain ⟨hx, hb, hml, hown, hts⟩ := id hC
  refine lv_aload_n hx hb dL_law_168 rfl (lv_at hl 2 rfl) ?_
  refine lv_aload_n hx hb dL_law_169 rfl (lv_at hl 3 rfl) ?_
  refine lv_iload_n hx hb dL_law_170 rfl (lv_at hl 0 rfl) ?_
  refine lv_iconst (v := 1) hx hb dL_law_171 (by decide) ?_
  refine lv_iadd hx hb dL_law_172 ?_
  refine k_i 1 (by decide +kernel) ?_
  refine va_sld hx hb hX hbl hbA hS (i := 1) (k_in (k := 1) (by decide +kernel) (by decide)) dL_law_173 ?_
  refine k_i (xs 1) (congrArg xs (by decide +kernel)) ?_
  refine lv_aload_n hx hb dL_law_174 rfl (lv_at hl 3 rfl) ?_
  refine lv_iload_n hx hb dL_law_175 rfl (lv_at hl 0 rfl) ?_
  refine lv_iconst (v := 2) hx hb dL_law_176 (by decide) ?_
  refine lv_iadd hx hb dL_law_177 ?_
  refine k_i 2 (by decide +kernel) ?_
  refine va_sld hx hb hX hbl hbA hS (i := 2) (k_in (k := 2) (by decide +kernel) (by decide)) dL_law_178 ?_
  refine k_i (xs 2) (congrArg xs (by decide +kernel)) ?_
  refine lv_aload_n hx hb dL_law_179 rfl (lv_at hl 3 rfl) ?_
  refine lv_iload_n hx hb dL_law_180 rfl (lv_at hl 0 rfl) ?_
  refine lv_iconst (v := 3) hx hb dL_law_181 (by decide) ?_
  refine lv_iadd hx hb dL_law_182 ?_
  refine k_i 3 (by decide +kernel) ?_
  refine va_sld hx hb hX hbl hbA hS (i := 3) (k_in (k := 3) (by decide +kernel) (by decide)) dL_law_183 ?_
  refine k_i (xs 3) (congrArg xs (by decide +kernel)) ?_
  refine lv_aload_n hx hb dL_law_184 rfl (lv_at hl 3 rfl) ?_
  refine lv_iload_n hx hb dL_law_185 rfl (lv_at hl 0 rfl) ?_
  refine lv_iconst (v := 4) hx hb dL_law_186 (by decide) ?_
  refine lv_iadd hx hb dL_law_187 ?_
  refine k_i 4 (by decide +kernel) ?_
  refine va_sld hx hb hX hbl hbA hS (i := 4) (k_in (k := 4) (by decide +kernel) (by decide)) dL_law_188 ?_
  refine k_i (xs 4) (congrArg xs (by decide +kernel)) ?_
  refine lv_aload_n hx hb dL_law_189 rfl (lv_at hl 3 rfl) ?_
  refine lv_iload_n hx hb dL_law_190 rfl (lv_at hl 0 rfl) ?_
  refine lv_iconst (v := 5) hx hb dL_law_191 (by decide) ?_
  refine lv_iadd hx hb dL_law_192 ?_
  refine k_i 5 (by decide +kernel) ?_
  refine va_sld hx hb hX hbl hbA hS (i := 5) (k_in (k := 5) (by decide +kernel) (by decide)) dL_law_193 ?_
  refine k_i (xs 5) (congrArg xs (by decide +kernel)) ?_
  refine k_ci (wr := [(a11, .inr (10, [.ref a12, .ref a13, .int 0, .int 0, .int 0, .int (-1), .int 0, .int 0, .int 0, .int 0, .long 0, .ref a14, .ref a15, .ref a16, .ref a17, .ref a18, .ref a19, .ref a20, .ref a21, .ref a22, .ref a23, .ref a24, .ref a25, .ref a26, .ref a27, .ref a28, .ref a29, .ref a30, .ref a31, .ref a32, .ref a33, .ref a34, .ref a35, .ref a36, .ref a37, .ref a38, .ref a39, .ref a40, .ref a41, .ref a42, .int 0, .int 0, .ref a43, .ref a44, .int 0, .int 0, .int 0, .int 0, .ref a45, .int 0, .ref a46, .ref a47, .ref a48, .int 0, .int 0, .int 0, .int 0, .int 0, .int 0, .int 0, .int 0, .ref a49, .int 0, .ref a50, .ref a51, .ref a52, .ref a53, .int 0, .int 0])), (a12, .inl (cB, 1320, .inl (fun _ => 0)))]) (k_rV hC hN hK hP hD (c19_X9_feed l G cI cJ cB cZ a0 a1 a2 a3 a4 a5 a6 a7 a8 a9 a10 (xs 1) (xs 2) (xs 3) (xs 4) (xs 5)) [0, 1, 2, 3] rfl (by decide) mi_X9_feed in_X9_feed se_X9_feed wm_L_13 9 0 rfl rfl rfl hl.1 rfl rfl (Nat.le_of_ble_eq_true rfl) ⟨(Nat.le_of_ble_eq_true rfl), (Nat.le_of_ble_eq_true rfl)⟩ dL_law_194 ⟨(Nat.le_of_ble_eq_true rfl), (Nat.le_of_ble_eq_true rfl)⟩) hP hD hS hA [0, 1, 2, 3] [4, 5] rfl rfl (by decide) (by decide) (fun r1 u1 H locs hp hP hD hS => ?_)
  have hP : va_P G cl [(a11, .inr (10, [.ref a12, .ref a13, .int 0, .int 0, .int 0, .int (-1), .int 0, .int 0, .int 0, .int 0, .long 0, .ref a14, .ref a15, .ref a16, .ref a17, .ref a18, .ref a19, .ref a20, .ref a21, .ref a22, .ref a23, .ref a24, .ref a25, .ref a26, .ref a27, .ref a28, .ref a29, .ref a30, .ref a31, .ref a32, .ref a33, .ref a34, .ref a35, .ref a36, .ref a37, .ref a38, .ref a39, .ref a40, .ref a41, .ref a42, .int 0, .int 0, .ref a43, .ref a44, .int 0, .int 0, .int 0, .int 0, .ref a45, .int 0, .ref a46, .ref a47, .ref a48, .int 0, .int 0, .int 0, .int 0, .int 0, .int 0, .int 0, .int 0, .ref a49, .int 0, .ref a50, .ref a51, .ref a52, .ref a53, .int 0, .int 0])), (a12, .inl (cB, 1320, .inl (fun _ => 0)))] H := hP
  have hD : va_D A [(a11, .inr (10, [.ref a12, .ref a13, .int 0, .int 0, .int 0, .int (-1), .int 0, .int 0, .int 0, .int 0, .long 0, .ref a14, .ref a15, .ref a16, .ref a17, .ref a18, .ref a19, .ref a20, .ref a21, .ref a22, .ref a23, .ref a24, .ref a25, .ref a26, .ref a27, .ref a28, .ref a29, .ref a30, .ref a31, .ref a32, .ref a33, .ref a34, .ref a35, .ref a36, .ref a37, .ref a38, .ref a39, .ref a40, .ref a41, .ref a42, .int 0, .int 0, .ref a43, .ref a44, .int 0, .int 0, .int 0, .int 0, .ref a45, .int 0, .ref a46, .ref a47, .ref a48, .int 0, .int 0, .int 0, .int 0, .int 0, .int 0, .int 0, .int 0, .ref a49, .int 0, .ref a50, .ref a51, .ref a52, .ref a53, .int 0, .int 0])), (a12, .inl (cB, 1320, .inl (fun _ => 0)))] := hD
  subst hp
  refine lv_aload_n hx hb dL_law_197 rfl (lv_at hl 1 rfl) ?_
  refine lv_aload_n hx hb dL_law_198 rfl (lv_at hl 3 rfl) ?_
  refine lv_iload_n hx hb dL_law_199 rfl (lv_at hl 0 rfl) ?_
  refine lv_iconst (v := 1) hx hb dL_law_200 (by decide) ?_
  refine lv_iadd hx hb dL_law_201 ?_
  refine k_i 1 (by decide +kernel) ?_
  refine va_sld hx hb hX hbl hbA hS (i := 1) (k_in (k := 1) (by decide +kernel) (by decide)) dL_law_202 ?_
  refine k_i (xs 1) (congrArg xs (by decide +kernel)) ?_
  refine lv_aload_n hx hb dL_law_203 rfl (lv_at hl 3 rfl) ?_
  refine lv_iload_n hx hb dL_law_204 rfl (lv_at hl 0 rfl) ?_
  refine lv_iconst (v := 2) hx hb dL_law_205 (by decide) ?_
  refine lv_iadd hx hb dL_law_206 ?_
  refine k_i 2 (by decide +kernel) ?_
  refine va_sld hx hb hX hbl hbA hS (i := 2) (k_in (k := 2) (by decide +kernel) (by decide)) dL_law_207 ?_
  refine k_i (xs 2) (congrArg xs (by decide +kernel)) ?_
  refine lv_aload_n hx hb dL_law_208 rfl (lv_at hl 3 rfl) ?_
  refine lv_iload_n hx hb dL_law_209 rfl (lv_at hl 0 rfl) ?_
  refine lv_iconst (v := 3) hx hb dL_law_210 (by decide) ?_
  refine lv_iadd hx hb dL_law_211 ?_
  refine k_i 3 (by decide +kernel) ?_
  refine va_sld hx hb hX hbl hbA hS (i := 3) (k_in (k := 3) (by decide +kernel) (by decide)) dL_law_212 ?_
  refine k_i (xs 3) (congrArg xs (by decide +kernel)) ?_
  refine lv_aload_n hx hb dL_law_213 rfl (lv_at hl 3 rfl) ?_
  refine lv_iload_n hx hb dL_law_214 rfl (lv_at hl 0 rfl) ?_
  refine lv_iconst (v := 4) hx hb dL_law_215 (by decide) ?_
  refine lv_iadd hx hb dL_law_216 ?_
  refine k_i 4 (by decide +kernel) ?_
  refine va_sld hx hb hX hbl hbA hS (i := 4) (k_in (k := 4) (by decide +kernel) (by decide)) dL_law_217 ?_
  refine k_i (xs 4) (congrArg xs (by decide +kernel)) ?_
  refine lv_aload_n hx hb dL_law_218 rfl (lv_at hl 3 rfl) ?_
  refine lv_iload_n hx hb dL_law_219 rfl (lv_at hl 0 rfl) ?_
  refine lv_iconst (v := 5) hx hb dL_law_220 (by decide) ?_
  refine lv_iadd hx hb dL_law_221 ?_
  refine k_i 5 (by decide +kernel) ?_
  refine va_sld hx hb hX hbl hbA hS (i := 5) (k_in (k := 5) (by decide +kernel) (by decide)) dL_law_222 ?_
  refine k_i (xs 5) (congrArg xs (by decide +kernel)) ?_
  refine k_ci (wr := []) (k_rV hC hN hK hP hD (c128_X10_feed l G cI cJ cB cZ a11 a12 a13 a14 a15 a16 a17 a18 a19 a20 a21 a22 a23 a24 a25 a26 a27 a28 a29 a30 a31 a32 a33 a34 a35 a36 a37 a38 a39 a40 a41 a42 a43 a44 a45 a46 a47 a48 a49 a50 a51 a52 a53 (xs 1) (xs 2) (xs 3) (xs 4) (xs 5)) [0, 1] rfl (by decide) mi_X10_feed in_X10_feed se_X10_feed wm_L_17 10 0 rfl rfl rfl hl.1 rfl rfl (Nat.le_of_ble_eq_true rfl) ⟨(Nat.le_of_ble_eq_true rfl), (Nat.le_of_ble_eq_true rfl)⟩ dL_law_223 ⟨(Nat.le_of_ble_eq_true rfl), (Nat.le_of_ble_eq_true rfl)⟩) hP hD hS hA [0, 1] [] rfl rfl (by decide) (by decide) (fun r2 u2 H locs hp hP hD hS => ?_)
  have hP : va_P G cl [] H := hP
  have hD : va_D A [] := hD
  subst hp
  refine lv_icmp_eq (tgt := 1428) hx hb dL_law_226 (by decide) (fun _ => ?_) (fun c_ => absurd (by decide +kernel) c_)
  exact law_tail hC hr hlk hX hbl hbA hfo hS hl (Nat.le_of_ble_eq_true rfl) (Nat.le_of_ble_eq_true rfl)
set_option maxRecDepth 100000 in
theorem wm_L_18 : Cond.methodLink RL 18 yX9_end ∈ gw := gm (List.mem_of_getElem? (i := 575) (by decide +kernel)) rfl
set_option maxRecDepth 100000 in
theorem mi_X9_end : MI yX9_end cX9_end 2 (some .int) 1 := ⟨gm (List.mem_of_getElem? (i := 578) rfl) rfl, gm (List.mem_of_getElem? (i := 112) (by decide +kernel)) rfl, by decide, by decide, by decide +kernel⟩
set_option maxRecDepth 100000 in
theorem in_X9_end : Cond.instanceMethod yX9_end ∈ gw := gm (List.mem_of_getElem? (i := 576) (by decide +kernel)) rfl
set_option maxRecDepth 100000 in
theorem se_X9_end : Cond.selects yX9_end.cls yX9_end yX9_end ∈ gw := gm (List.mem_of_getElem? (i := 577) (by decide +kernel)) rfl
set_option maxRecDepth 100000 in
theorem wm_L_22 : Cond.methodLink RL 22 yX10_end ∈ gw := gm (List.mem_of_getElem? (i := 1862) (by decide +kernel)) rfl
set_option maxRecDepth 100000 in
theorem mi_X10_end : MI yX10_end cX10_end 2 (some .int) 1 := ⟨gm (List.mem_of_getElem? (i := 1865) rfl) rfl, gm (List.mem_of_getElem? (i := 124) (by decide +kernel)) rfl, by decide, by decide, by decide +kernel⟩
set_option maxRecDepth 100000 in
theorem in_X10_end : Cond.instanceMethod yX10_end ∈ gw := gm (List.mem_of_getElem? (i := 1863) (by decide +kernel)) rfl
set_option maxRecDepth 100000 in
theorem se_X10_end : Cond.selects yX10_end.cls yX10_end yX10_end ∈ gw := gm (List.mem_of_getElem? (i := 1864) (by decide +kernel)) rfl
set_option maxHeartbeats 4000000 in
set_option maxRecDepth 100000 in
theorem law_end {p : Program} {l : Launch} {e : Env} {s : State} {m : MethodId} {below : List Frame} {meth : Method} {c : Code} {b : Nat} {xs : Nat → Int32} {A : Nat → Prop} {H : Heap} {locs : List Loc} {ls : Array Slot} {G : va_G} {cI cJ cB cZ : ClassId} (a0 a1 a2 a3 a4 a5 a6 a7 a8 a9 a10 a11 a12 a13 a14 a15 a16 a17 a18 a19 a20 a21 a22 a23 a24 a25 a26 a27 a28 a29 a30 a31 a32 a33 a34 a35 a36 a37 a38 a39 a40 a41 a42 a43 a44 a45 a46 a47 a48 a49 a50 a51 a52 a53 : Nat) (hC : CallFix p m c code 4 s #[Value.ref b] gw R_law) (hr : meth.sig.returnType = ret) (hlk : meth.locks = false) (hN : NW s) (hK : va_K G cl (TY cI cJ cB cZ) s) (hX : va_X b 6 xs s s.heap) (hbl : b < s.heap.size) (hA : ∀ q, s.heap.size ≤ q → A q) (hbA : ¬ A b) (hfo : ∀ q, A q → s.heap.size ≤ q) (hP : va_P G cl [(a0, .inr (9, [.ref a1, .ref a2, .ref a3, .int 0, .int 0, .ref a4, .ref a5, .ref a6, .ref a7])), (a2, .inr (2, [.ref a8, .ref a9, .int 0, .int 0, .int 0, .int 0, .int 0, .int (-1)])), (a8, .inr (5, [.ref a10, .int 0, .int 0, .int 0, .int 0, .long 0, .int 0])), (a11, .inr (10, [.ref a12, .ref a13, .int 0, .int 0, .int 0, .int (-1), .int 0, .int 0, .int 0, .int 0, .long 0, .ref a14, .ref a15, .ref a16, .ref a17, .ref a18, .ref a19, .ref a20, .ref a21, .ref a22, .ref a23, .ref a24, .ref a25, .ref a26, .ref a27, .ref a28, .ref a29, .ref a30, .ref a31, .ref a32, .ref a33, .ref a34, .ref a35, .ref a36, .ref a37, .ref a38, .ref a39, .ref a40, .ref a41, .ref a42, .int 0, .int 0, .ref a43, .ref a44, .int 0, .int 0, .int 0, .int 0, .ref a45, .int 0, .ref a46, .ref a47, .ref a48, .int 0, .int 0, .int 0, .int 0, .int 0, .int 0, .int 0, .int 0, .ref a49, .int 0, .ref a50, .ref a51, .ref a52, .ref a53, .int 0, .int 0]))] H) (hD : va_D A [(a0, .inr (9, [.ref a1, .ref a2, .ref a3, .int 0, .int 0, .ref a4, .ref a5, .ref a6, .ref a7])), (a2, .inr (2, [.ref a8, .ref a9, .int 0, .int 0, .int 0, .int 0, .int 0, .int (-1)])), (a8, .inr (5, [.ref a10, .int 0, .int 0, .int 0, .int 0, .long 0, .int 0])), (a11, .inr (10, [.ref a12, .ref a13, .int 0, .int 0, .int 0, .int (-1), .int 0, .int 0, .int 0, .int 0, .long 0, .ref a14, .ref a15, .ref a16, .ref a17, .ref a18, .ref a19, .ref a20, .ref a21, .ref a22, .ref a23, .ref a24, .ref a25, .ref a26, .ref a27, .ref a28, .ref a29, .ref a30, .ref a31, .ref a32, .ref a33, .ref a34, .ref a35, .ref a36, .ref a37, .ref a38, .ref a39, .ref a40, .ref a41, .ref a42, .int 0, .int 0, .ref a43, .ref a44, .int 0, .int 0, .int 0, .int 0, .ref a45, .int 0, .ref a46, .ref a47, .ref a48, .int 0, .int 0, .int 0, .int 0, .int 0, .int 0, .int 0, .int 0, .ref a49, .int 0, .ref a50, .ref a51, .ref a52, .ref a53, .int 0, .int 0]))]) (hS : va_S A s.heap H locs) (hl : lv_has ls 4 [(3, .int 0), (2, .ref a11), (1, .ref a0), (0, .ref b)]) : W p l e room_1 s m #[Value.ref b] below meth c H locs 1000 1000000 (lw_Z below #[Value.ref b] s) (F0 m 231 ls []) := by
  obtain ⟨hx, hb, hml, hown, hts⟩ := id hC
  refine lv_aload_n hx hb dL_law_231 rfl (lv_at hl 2 rfl) ?_
  refine lv_aload_n hx hb dL_law_232 rfl (lv_at hl 3 rfl) ?_
  refine lv_iload_n hx hb dL_law_233 rfl (lv_at hl 0 rfl) ?_
  refine lv_iconst (v := 1) hx hb dL_law_234 (by decide) ?_
  refine lv_iadd hx hb dL_law_235 ?_
  refine k_i 1 (by decide +kernel) ?_
  refine va_sld hx hb hX hbl hbA hS (i := 1) (k_in (k := 1) (by decide +kernel) (by decide)) dL_law_236 ?_
  refine k_i (xs 1) (congrArg xs (by decide +kernel)) ?_
  refine k_ci (wr := [(a11, .inr (10, [.ref a12, .ref a13, .int 0, .int 0, .int 0, .int (-1), .int 0, .int 0, .int 0, .int 0, .long 0, .ref a14, .ref a15, .ref a16, .ref a17, .ref a18, .ref a19, .ref a20, .ref a21, .ref a22, .ref a23, .ref a24, .ref a25, .ref a26, .ref a27, .ref a28, .ref a29, .ref a30, .ref a31, .ref a32, .ref a33, .ref a34, .ref a35, .ref a36, .ref a37, .ref a38, .ref a39, .ref a40, .ref a41, .ref a42, .int 0, .int 0, .ref a43, .ref a44, .int 0, .int 0, .int 0, .int 0, .ref a45, .int 0, .ref a46, .ref a47, .ref a48, .int 0, .int 0, .int 0, .int 0, .int 0, .int 0, .int 0, .int 0, .ref a49, .int 0, .ref a50, .ref a51, .ref a52, .ref a53, .int 0, .int 0]))]) (k_rV hC hN hK hP hD (c20_X9_end l G cI cJ cB cZ a0 a1 a2 a3 a4 a5 a6 a7 a8 a9 a10 (xs 1)) [0, 1, 2] rfl (by decide) mi_X9_end in_X9_end se_X9_end wm_L_18 9 0 rfl rfl rfl hl.1 rfl rfl (Nat.le_of_ble_eq_true rfl) ⟨(Nat.le_of_ble_eq_true rfl), (Nat.le_of_ble_eq_true rfl)⟩ dL_law_237 ⟨(Nat.le_of_ble_eq_true rfl), (Nat.le_of_ble_eq_true rfl)⟩) hP hD hS hA [0, 1, 2] [3] rfl rfl (by decide) (by decide) (fun r1 u1 H locs hp hP hD hS => ?_)
  have hP : va_P G cl [(a11, .inr (10, [.ref a12, .ref a13, .int 0, .int 0, .int 0, .int (-1), .int 0, .int 0, .int 0, .int 0, .long 0, .ref a14, .ref a15, .ref a16, .ref a17, .ref a18, .ref a19, .ref a20, .ref a21, .ref a22, .ref a23, .ref a24, .ref a25, .ref a26, .ref a27, .ref a28, .ref a29, .ref a30, .ref a31, .ref a32, .ref a33, .ref a34, .ref a35, .ref a36, .ref a37, .ref a38, .ref a39, .ref a40, .ref a41, .ref a42, .int 0, .int 0, .ref a43, .ref a44, .int 0, .int 0, .int 0, .int 0, .ref a45, .int 0, .ref a46, .ref a47, .ref a48, .int 0, .int 0, .int 0, .int 0, .int 0, .int 0, .int 0, .int 0, .ref a49, .int 0, .ref a50, .ref a51, .ref a52, .ref a53, .int 0, .int 0]))] H := hP
  have hD : va_D A [(a11, .inr (10, [.ref a12, .ref a13, .int 0, .int 0, .int 0, .int (-1), .int 0, .int 0, .int 0, .int 0, .long 0, .ref a14, .ref a15, .ref a16, .ref a17, .ref a18, .ref a19, .ref a20, .ref a21, .ref a22, .ref a23, .ref a24, .ref a25, .ref a26, .ref a27, .ref a28, .ref a29, .ref a30, .ref a31, .ref a32, .ref a33, .ref a34, .ref a35, .ref a36, .ref a37, .ref a38, .ref a39, .ref a40, .ref a41, .ref a42, .int 0, .int 0, .ref a43, .ref a44, .int 0, .int 0, .int 0, .int 0, .ref a45, .int 0, .ref a46, .ref a47, .ref a48, .int 0, .int 0, .int 0, .int 0, .int 0, .int 0, .int 0, .int 0, .ref a49, .int 0, .ref a50, .ref a51, .ref a52, .ref a53, .int 0, .int 0]))] := hD
  have hp1 := hp
  refine lv_aload_n hx hb dL_law_240 rfl (lv_at hl 1 rfl) ?_
  refine lv_aload_n hx hb dL_law_241 rfl (lv_at hl 3 rfl) ?_
  refine lv_iload_n hx hb dL_law_242 rfl (lv_at hl 0 rfl) ?_
  refine lv_iconst (v := 1) hx hb dL_law_243 (by decide) ?_
  refine lv_iadd hx hb dL_law_244 ?_
  refine k_i 1 (by decide +kernel) ?_
  refine va_sld hx hb hX hbl hbA hS (i := 1) (k_in (k := 1) (by decide +kernel) (by decide)) dL_law_245 ?_
  refine k_i (xs 1) (congrArg xs (by decide +kernel)) ?_
  refine k_ci (wr := []) (k_rV hC hN hK hP hD (c129_X10_end l G cI cJ cB cZ a11 a12 a13 a14 a15 a16 a17 a18 a19 a20 a21 a22 a23 a24 a25 a26 a27 a28 a29 a30 a31 a32 a33 a34 a35 a36 a37 a38 a39 a40 a41 a42 a43 a44 a45 a46 a47 a48 a49 a50 a51 a52 a53 (xs 1)) [0] rfl (by decide) mi_X10_end in_X10_end se_X10_end wm_L_22 10 0 rfl rfl rfl hl.1 rfl rfl (Nat.le_of_ble_eq_true rfl) ⟨(Nat.le_of_ble_eq_true rfl), (Nat.le_of_ble_eq_true rfl)⟩ dL_law_246 ⟨(Nat.le_of_ble_eq_true rfl), (Nat.le_of_ble_eq_true rfl)⟩) hP hD hS hA [0] [] rfl rfl (by decide) (by decide) (fun r2 u2 H locs hp hP hD hS => ?_)
  have hP : va_P G cl [] H := hP
  have hD : va_D A [] := hD
  have hp2 := hp
  refine lv_icmp_eq (tgt := 1428) hx hb dL_law_249 (by decide) (fun _ => ?_) (fun c_ => absurd (hp1.trans hp2.symm) c_)
  exact law_tail hC hr hlk hX hbl hbA hfo hS hl (Nat.le_of_ble_eq_true rfl) (Nat.le_of_ble_eq_true rfl)
set_option maxRecDepth 100000 in
theorem wm_L_23 : Cond.methodLink RL 23 yX9_village ∈ gw := gm (List.mem_of_getElem? (i := 579) (by decide +kernel)) rfl
set_option maxRecDepth 100000 in
theorem mi_X9_village : MI yX9_village cX9_village 2 (some .int) 0 := ⟨gm (List.mem_of_getElem? (i := 582) rfl) rfl, gm (List.mem_of_getElem? (i := 112) (by decide +kernel)) rfl, by decide, by decide, by decide +kernel⟩
set_option maxRecDepth 100000 in
theorem in_X9_village : Cond.instanceMethod yX9_village ∈ gw := gm (List.mem_of_getElem? (i := 580) (by decide +kernel)) rfl
set_option maxRecDepth 100000 in
theorem se_X9_village : Cond.selects yX9_village.cls yX9_village yX9_village ∈ gw := gm (List.mem_of_getElem? (i := 581) (by decide +kernel)) rfl
set_option maxRecDepth 100000 in
theorem wm_L_27 : Cond.methodLink RL 27 yX10_village ∈ gw := gm (List.mem_of_getElem? (i := 1464) (by decide +kernel)) rfl
set_option maxRecDepth 100000 in
theorem mi_X10_village : MI yX10_village cX10_village 2 (some .int) 0 := ⟨gm (List.mem_of_getElem? (i := 1467) rfl) rfl, gm (List.mem_of_getElem? (i := 124) (by decide +kernel)) rfl, by decide, by decide, by decide +kernel⟩
set_option maxRecDepth 100000 in
theorem in_X10_village : Cond.instanceMethod yX10_village ∈ gw := gm (List.mem_of_getElem? (i := 1465) (by decide +kernel)) rfl
set_option maxRecDepth 100000 in
theorem se_X10_village : Cond.selects yX10_village.cls yX10_village yX10_village ∈ gw := gm (List.mem_of_getElem? (i := 1466) (by decide +kernel)) rfl
set_option maxHeartbeats 4000000 in
set_option maxRecDepth 100000 in
theorem law_village {p : Program} {l : Launch} {e : Env} {s : State} {m : MethodId} {below : List Frame} {meth : Method} {c : Code} {b : Nat} {xs : Nat → Int32} {A : Nat → Prop} {H : Heap} {locs : List Loc} {ls : Array Slot} {G : va_G} {cI cJ cB cZ : ClassId} (a0 a1 a2 a3 a4 a5 a6 a7 a8 a9 a10 a11 a12 a13 a14 a15 a16 a17 a18 a19 a20 a21 a22 a23 a24 a25 a26 a27 a28 a29 a30 a31 a32 a33 a34 a35 a36 a37 a38 a39 a40 a41 a42 a43 a44 a45 a46 a47 a48 a49 a50 a51 a52 a53 a54 a55 a56 a57 a58 a59 a60 a61 a62 a63 a64 a65 a66 a67 a68 a69 a70 a71 a72 a73 a74 a75 a76 a77 a78 a79 a80 a81 a82 a83 : Nat) (hC : CallFix p m c code 4 s #[Value.ref b] gw R_law) (hr : meth.sig.returnType = ret) (hlk : meth.locks = false) (hN : NW s) (hK : va_K G cl (TY cI cJ cB cZ) s) (hX : va_X b 6 xs s s.heap) (hbl : b < s.heap.size) (hA : ∀ q, s.heap.size ≤ q → A q) (hbA : ¬ A b) (hfo : ∀ q, A q → s.heap.size ≤ q) (hP : va_P G cl [(a0, .inr (9, [.ref a1, .ref a2, .ref a3, .int 0, .int 0, .ref a4, .ref a5, .ref a6, .ref a7])), (a2, .inr (2, [.ref a8, .ref a9, .int 0, .int 0, .int 0, .int 0, .int 0, .int (-1)])), (a9, .inr (7, [.int 100, .int 100, .int 0, .ref a10, .ref a11, .int 0, .ref a12, .ref a13, .ref a14, .ref a15, .ref a16, .ref a17, .ref a18, .ref a19, .ref a20])), (a10, .inl (cI, 2, .inl (upd (upd (fun _ => 0) 0 16) 1 16))), (a11, .inl (cI, 2, .inl (upd (upd (fun _ => 0) 0 16) 1 16))), (a19, .inr (8, [.ref a21, .ref a22, .ref a23, .ref a24, .ref a25, .ref a26, .ref a27, .int 0])), (a20, .inr (3, [.ref a28, .ref a29, .ref a30, .ref a31, .int 0])), (a8, .inr (5, [.ref a32, .int 0, .int 0, .int 0, .int 0, .long 0, .int 0])), (a3, .inr (8, [.ref a33, .ref a34, .ref a35, .ref a36, .ref a37, .ref a38, .ref a39, .int 0])), (a5, .inr (0, [.ref a40, .int 0, .int 0, .long 0, .int 0, .int 0, .long 0])), (a41, .inr (10, [.ref a42, .ref a43, .int 0, .int 0, .int 0, .int (-1), .int 0, .int 0, .int 0, .int 0, .long 0, .ref a44, .ref a45, .ref a46, .ref a47, .ref a48, .ref a49, .ref a50, .ref a51, .ref a52, .ref a53, .ref a54, .ref a55, .ref a56, .ref a57, .ref a58, .ref a59, .ref a60, .ref a61, .ref a62, .ref a63, .ref a64, .ref a65, .ref a66, .ref a67, .ref a68, .ref a69, .ref a70, .ref a71, .ref a72, .int 0, .int 0, .ref a73, .ref a74, .int 0, .int 0, .int 0, .int 0, .ref a75, .int 0, .ref a76, .ref a77, .ref a78, .int 0, .int 0, .int 0, .int 0, .int 0, .int 0, .int 0, .int 0, .ref a79, .int 0, .ref a80, .ref a81, .ref a82, .ref a83, .int 0, .int 0])), (a44, .inl (cZ, 2, .inl (fun _ => 0))), (a45, .inl (cZ, 2, .inl (fun _ => 0))), (a48, .inl (cI, 2, .inl (upd (fun _ => 0) 0 100))), (a49, .inl (cI, 2, .inl (upd (fun _ => 0) 0 100))), (a50, .inl (cI, 2, .inl (fun _ => 0))), (a53, .inl (cI, 2, .inl (fun _ => 0))), (a60, .inl (cI, 2, .inl (fun _ => 0))), (a61, .inl (cI, 2, .inl (fun _ => 0))), (a62, .inl (cI, 2, .inl (fun _ => 0))), (a46, .inl (cZ, 4, .inl (fun _ => 0))), (a51, .inl (cI, 4, .inl (upd (upd (fun _ => 0) 0 16) 1 16))), (a52, .inl (cI, 4, .inl (upd (upd (fun _ => 0) 0 16) 1 16))), (a47, .inl (cZ, 12, .inl (fun _ => 0)))] H) (hD : va_D A [(a0, .inr (9, [.ref a1, .ref a2, .ref a3, .int 0, .int 0, .ref a4, .ref a5, .ref a6, .ref a7])), (a2, .inr (2, [.ref a8, .ref a9, .int 0, .int 0, .int 0, .int 0, .int 0, .int (-1)])), (a9, .inr (7, [.int 100, .int 100, .int 0, .ref a10, .ref a11, .int 0, .ref a12, .ref a13, .ref a14, .ref a15, .ref a16, .ref a17, .ref a18, .ref a19, .ref a20])), (a10, .inl (cI, 2, .inl (upd (upd (fun _ => 0) 0 16) 1 16))), (a11, .inl (cI, 2, .inl (upd (upd (fun _ => 0) 0 16) 1 16))), (a19, .inr (8, [.ref a21, .ref a22, .ref a23, .ref a24, .ref a25, .ref a26, .ref a27, .int 0])), (a20, .inr (3, [.ref a28, .ref a29, .ref a30, .ref a31, .int 0])), (a8, .inr (5, [.ref a32, .int 0, .int 0, .int 0, .int 0, .long 0, .int 0])), (a3, .inr (8, [.ref a33, .ref a34, .ref a35, .ref a36, .ref a37, .ref a38, .ref a39, .int 0])), (a5, .inr (0, [.ref a40, .int 0, .int 0, .long 0, .int 0, .int 0, .long 0])), (a41, .inr (10, [.ref a42, .ref a43, .int 0, .int 0, .int 0, .int (-1), .int 0, .int 0, .int 0, .int 0, .long 0, .ref a44, .ref a45, .ref a46, .ref a47, .ref a48, .ref a49, .ref a50, .ref a51, .ref a52, .ref a53, .ref a54, .ref a55, .ref a56, .ref a57, .ref a58, .ref a59, .ref a60, .ref a61, .ref a62, .ref a63, .ref a64, .ref a65, .ref a66, .ref a67, .ref a68, .ref a69, .ref a70, .ref a71, .ref a72, .int 0, .int 0, .ref a73, .ref a74, .int 0, .int 0, .int 0, .int 0, .ref a75, .int 0, .ref a76, .ref a77, .ref a78, .int 0, .int 0, .int 0, .int 0, .int 0, .int 0, .int 0, .int 0, .ref a79, .int 0, .ref a80, .ref a81, .ref a82, .ref a83, .int 0, .int 0])), (a44, .inl (cZ, 2, .inl (fun _ => 0))), (a45, .inl (cZ, 2, .inl (fun _ => 0))), (a48, .inl (cI, 2, .inl (upd (fun _ => 0) 0 100))), (a49, .inl (cI, 2, .inl (upd (fun _ => 0) 0 100))), (a50, .inl (cI, 2, .inl (fun _ => 0))), (a53, .inl (cI, 2, .inl (fun _ => 0))), (a60, .inl (cI, 2, .inl (fun _ => 0))), (a61, .inl (cI, 2, .inl (fun _ => 0))), (a62, .inl (cI, 2, .inl (fun _ => 0))), (a46, .inl (cZ, 4, .inl (fun _ => 0))), (a51, .inl (cI, 4, .inl (upd (upd (fun _ => 0) 0 16) 1 16))), (a52, .inl (cI, 4, .inl (upd (upd (fun _ => 0) 0 16) 1 16))), (a47, .inl (cZ, 12, .inl (fun _ => 0)))]) (hS : va_S A s.heap H locs) (hl : lv_has ls 4 [(3, .int 0), (2, .ref a41), (1, .ref a0), (0, .ref b)]) : W p l e room_1 s m #[Value.ref b] below meth c H locs 1000 1000000 (lw_Z below #[Value.ref b] s) (F0 m 254 ls []) := by
  obtain ⟨hx, hb, hml, hown, hts⟩ := id hC
  refine lv_aload_n hx hb dL_law_254 rfl (lv_at hl 2 rfl) ?_
  refine k_ci (wr := [(a41, .inr (10, [.ref a42, .ref a43, .int 0, .int 0, .int 0, .int (-1), .int 0, .int 0, .int 0, .int 0, .long 0, .ref a44, .ref a45, .ref a46, .ref a47, .ref a48, .ref a49, .ref a50, .ref a51, .ref a52, .ref a53, .ref a54, .ref a55, .ref a56, .ref a57, .ref a58, .ref a59, .ref a60, .ref a61, .ref a62, .ref a63, .ref a64, .ref a65, .ref a66, .ref a67, .ref a68, .ref a69, .ref a70, .ref a71, .ref a72, .int 0, .int 0, .ref a73, .ref a74, .int 0, .int 0, .int 0, .int 0, .ref a75, .int 0, .ref a76, .ref a77, .ref a78, .int 0, .int 0, .int 0, .int 0, .int 0, .int 0, .int 0, .int 0, .ref a79, .int 0, .ref a80, .ref a81, .ref a82, .ref a83, .int 0, .int 0])), (a44, .inl (cZ, 2, .inl (fun _ => 0))), (a45, .inl (cZ, 2, .inl (fun _ => 0))), (a48, .inl (cI, 2, .inl (upd (fun _ => 0) 0 100))), (a49, .inl (cI, 2, .inl (upd (fun _ => 0) 0 100))), (a50, .inl (cI, 2, .inl (fun _ => 0))), (a53, .inl (cI, 2, .inl (fun _ => 0))), (a60, .inl (cI, 2, .inl (fun _ => 0))), (a61, .inl (cI, 2, .inl (fun _ => 0))), (a62, .inl (cI, 2, .inl (fun _ => 0))), (a46, .inl (cZ, 4, .inl (fun _ => 0))), (a51, .inl (cI, 4, .inl (upd (upd (fun _ => 0) 0 16) 1 16))), (a52, .inl (cI, 4, .inl (upd (upd (fun _ => 0) 0 16) 1 16))), (a47, .inl (cZ, 12, .inl (fun _ => 0)))]) (k_rV hC hN hK hP hD (c28_X9_village l G cI cJ cB cZ a0 a1 a2 a3 a4 a5 a6 a7 a8 a9 a10 a11 a12 a13 a14 a15 a16 a17 a18 a19 a20 a21 a22 a23 a24 a25 a26 a27 a28 a29 a30 a31 a32 a33 a34 a35 a36 a37 a38 a39 a40) [0, 1, 2, 3, 4, 5, 6, 7, 8, 9] rfl (by decide) mi_X9_village in_X9_village se_X9_village wm_L_23 9 0 rfl rfl rfl hl.1 rfl rfl (Nat.le_of_ble_eq_true rfl) ⟨(Nat.le_of_ble_eq_true rfl), (Nat.le_of_ble_eq_true rfl)⟩ dL_law_255 ⟨(Nat.le_of_ble_eq_true rfl), (Nat.le_of_ble_eq_true rfl)⟩) hP hD hS hA [0, 1, 2, 3, 4, 5, 6, 7, 8, 9] [10, 11, 12, 13, 14, 15, 16, 17, 18, 19, 20, 21, 22, 23] rfl rfl (by decide) (by decide) (fun r1 u1 H locs hp hP hD hS => ?_)
  have hP : va_P G cl [(a41, .inr (10, [.ref a42, .ref a43, .int 0, .int 0, .int 0, .int (-1), .int 0, .int 0, .int 0, .int 0, .long 0, .ref a44, .ref a45, .ref a46, .ref a47, .ref a48, .ref a49, .ref a50, .ref a51, .ref a52, .ref a53, .ref a54, .ref a55, .ref a56, .ref a57, .ref a58, .ref a59, .ref a60, .ref a61, .ref a62, .ref a63, .ref a64, .ref a65, .ref a66, .ref a67, .ref a68, .ref a69, .ref a70, .ref a71, .ref a72, .int 0, .int 0, .ref a73, .ref a74, .int 0, .int 0, .int 0, .int 0, .ref a75, .int 0, .ref a76, .ref a77, .ref a78, .int 0, .int 0, .int 0, .int 0, .int 0, .int 0, .int 0, .int 0, .ref a79, .int 0, .ref a80, .ref a81, .ref a82, .ref a83, .int 0, .int 0])), (a44, .inl (cZ, 2, .inl (fun _ => 0))), (a45, .inl (cZ, 2, .inl (fun _ => 0))), (a48, .inl (cI, 2, .inl (upd (fun _ => 0) 0 100))), (a49, .inl (cI, 2, .inl (upd (fun _ => 0) 0 100))), (a50, .inl (cI, 2, .inl (fun _ => 0))), (a53, .inl (cI, 2, .inl (fun _ => 0))), (a60, .inl (cI, 2, .inl (fun _ => 0))), (a61, .inl (cI, 2, .inl (fun _ => 0))), (a62, .inl (cI, 2, .inl (fun _ => 0))), (a46, .inl (cZ, 4, .inl (fun _ => 0))), (a51, .inl (cI, 4, .inl (upd (upd (fun _ => 0) 0 16) 1 16))), (a52, .inl (cI, 4, .inl (upd (upd (fun _ => 0) 0 16) 1 16))), (a47, .inl (cZ, 12, .inl (fun _ => 0)))] H := hP
  have hD : va_D A [(a41, .inr (10, [.ref a42, .ref a43, .int 0, .int 0, .int 0, .int (-1), .int 0, .int 0, .int 0, .int 0, .long 0, .ref a44, .ref a45, .ref a46, .ref a47, .ref a48, .ref a49, .ref a50, .ref a51, .ref a52, .ref a53, .ref a54, .ref a55, .ref a56, .ref a57, .ref a58, .ref a59, .ref a60, .ref a61, .ref a62, .ref a63, .ref a64, .ref a65, .ref a66, .ref a67, .ref a68, .ref a69, .ref a70, .ref a71, .ref a72, .int 0, .int 0, .ref a73, .ref a74, .int 0, .int 0, .int 0, .int 0, .ref a75, .int 0, .ref a76, .ref a77, .ref a78, .int 0, .int 0, .int 0, .int 0, .int 0, .int 0, .int 0, .int 0, .ref a79, .int 0, .ref a80, .ref a81, .ref a82, .ref a83, .int 0, .int 0])), (a44, .inl (cZ, 2, .inl (fun _ => 0))), (a45, .inl (cZ, 2, .inl (fun _ => 0))), (a48, .inl (cI, 2, .inl (upd (fun _ => 0) 0 100))), (a49, .inl (cI, 2, .inl (upd (fun _ => 0) 0 100))), (a50, .inl (cI, 2, .inl (fun _ => 0))), (a53, .inl (cI, 2, .inl (fun _ => 0))), (a60, .inl (cI, 2, .inl (fun _ => 0))), (a61, .inl (cI, 2, .inl (fun _ => 0))), (a62, .inl (cI, 2, .inl (fun _ => 0))), (a46, .inl (cZ, 4, .inl (fun _ => 0))), (a51, .inl (cI, 4, .inl (upd (upd (fun _ => 0) 0 16) 1 16))), (a52, .inl (cI, 4, .inl (upd (upd (fun _ => 0) 0 16) 1 16))), (a47, .inl (cZ, 12, .inl (fun _ => 0)))] := hD
  subst hp
  refine lv_aload_n hx hb dL_law_258 rfl (lv_at hl 1 rfl) ?_
  refine k_ci (wr := []) (k_rV hC hN hK hP hD (c134_X10_village l G cI cJ cB cZ a41 a42 a43 a44 a45 a46 a47 a48 a49 a50 a51 a52 a53 a54 a55 a56 a57 a58 a59 a60 a61 a62 a63 a64 a65 a66 a67 a68 a69 a70 a71 a72 a73 a74 a75 a76 a77 a78 a79 a80 a81 a82 a83) [0, 1, 2, 3, 4, 5, 6, 7, 8, 9, 10, 11, 12, 13] rfl (by decide) mi_X10_village in_X10_village se_X10_village wm_L_27 10 0 rfl rfl rfl hl.1 rfl rfl (Nat.le_of_ble_eq_true rfl) ⟨(Nat.le_of_ble_eq_true rfl), (Nat.le_of_ble_eq_true rfl)⟩ dL_law_259 ⟨(Nat.le_of_ble_eq_true rfl), (Nat.le_of_ble_eq_true rfl)⟩) hP hD hS hA [0, 1, 2, 3, 4, 5, 6, 7, 8, 9, 10, 11, 12, 13] [] rfl rfl (by decide) (by decide) (fun r2 u2 H locs hp hP hD hS => ?_)
  have hP : va_P G cl [] H := hP
  have hD : va_D A [] := hD
  subst hp
  refine lv_icmp_eq (tgt := 1428) hx hb dL_law_262 (by decide) (fun _ => ?_) (fun c_ => absurd (by decide +kernel) c_)
  exact law_tail hC hr hlk hX hbl hbA hfo hS hl (Nat.le_of_ble_eq_true rfl) (Nat.le_of_ble_eq_true rfl)
set_option maxRecDepth 100000 in
theorem wm_L_28 : Cond.methodLink RL 28 yX9_fault ∈ gw := gm (List.mem_of_getElem? (i := 734) (by decide +kernel)) rfl
set_option maxRecDepth 100000 in
theorem mi_X9_fault : MI yX9_fault cX9_fault 2 (some .int) 1 := ⟨gm (List.mem_of_getElem? (i := 737) rfl) rfl, gm (List.mem_of_getElem? (i := 112) (by decide +kernel)) rfl, by decide, by decide, by decide +kernel⟩
set_option maxRecDepth 100000 in
theorem in_X9_fault : Cond.instanceMethod yX9_fault ∈ gw := gm (List.mem_of_getElem? (i := 735) (by decide +kernel)) rfl
set_option maxRecDepth 100000 in
theorem se_X9_fault : Cond.selects yX9_fault.cls yX9_fault yX9_fault ∈ gw := gm (List.mem_of_getElem? (i := 736) (by decide +kernel)) rfl
set_option maxRecDepth 100000 in
theorem wm_L_31 : Cond.methodLink RL 31 yX10_fault ∈ gw := gm (List.mem_of_getElem? (i := 1575) (by decide +kernel)) rfl
set_option maxRecDepth 100000 in
theorem mi_X10_fault : MI yX10_fault cX10_fault 2 (some .int) 1 := ⟨gm (List.mem_of_getElem? (i := 1578) rfl) rfl, gm (List.mem_of_getElem? (i := 124) (by decide +kernel)) rfl, by decide, by decide, by decide +kernel⟩
set_option maxRecDepth 100000 in
theorem in_X10_fault : Cond.instanceMethod yX10_fault ∈ gw := gm (List.mem_of_getElem? (i := 1576) (by decide +kernel)) rfl
set_option maxRecDepth 100000 in
theorem se_X10_fault : Cond.selects yX10_fault.cls yX10_fault yX10_fault ∈ gw := gm (List.mem_of_getElem? (i := 1577) (by decide +kernel)) rfl
set_option maxHeartbeats 4000000 in
set_option maxRecDepth 100000 in
theorem law_fault {p : Program} {l : Launch} {e : Env} {s : State} {m : MethodId} {below : List Frame} {meth : Method} {c : Code} {b : Nat} {xs : Nat → Int32} {A : Nat → Prop} {H : Heap} {locs : List Loc} {ls : Array Slot} {G : va_G} {cI cJ cB cZ : ClassId} (a0 a1 a2 a3 a4 a5 a6 a7 a8 a9 a10 a11 a12 a13 a14 a15 a16 a17 a18 a19 a20 a21 a22 a23 a24 a25 a26 a27 a28 a29 a30 a31 a32 a33 a34 a35 a36 a37 a38 a39 a40 a41 a42 a43 a44 a45 a46 a47 a48 a49 a50 a51 a52 : Nat) (hC : CallFix p m c code 4 s #[Value.ref b] gw R_law) (hr : meth.sig.returnType = ret) (hlk : meth.locks = false) (hN : NW s) (hK : va_K G cl (TY cI cJ cB cZ) s) (hX : va_X b 6 xs s s.heap) (hbl : b < s.heap.size) (hA : ∀ q, s.heap.size ≤ q → A q) (hbA : ¬ A b) (hfo : ∀ q, A q → s.heap.size ≤ q) (hP : va_P G cl [(a0, .inr (9, [.ref a1, .ref a2, .ref a3, .int 0, .int 0, .ref a4, .ref a5, .ref a6, .ref a7])), (a2, .inr (2, [.ref a8, .ref a9, .int 0, .int 0, .int 0, .int 0, .int 0, .int (-1)])), (a10, .inr (10, [.ref a11, .ref a12, .int 0, .int 0, .int 0, .int (-1), .int 0, .int 0, .int 0, .int 0, .long 0, .ref a13, .ref a14, .ref a15, .ref a16, .ref a17, .ref a18, .ref a19, .ref a20, .ref a21, .ref a22, .ref a23, .ref a24, .ref a25, .ref a26, .ref a27, .ref a28, .ref a29, .ref a30, .ref a31, .ref a32, .ref a33, .ref a34, .ref a35, .ref a36, .ref a37, .ref a38, .ref a39, .ref a40, .ref a41, .int 0, .int 0, .ref a42, .ref a43, .int 0, .int 0, .int 0, .int 0, .ref a44, .int 0, .ref a45, .ref a46, .ref a47, .int 0, .int 0, .int 0, .int 0, .int 0, .int 0, .int 0, .int 0, .ref a48, .int 0, .ref a49, .ref a50, .ref a51, .ref a52, .int 0, .int 0]))] H) (hD : va_D A [(a0, .inr (9, [.ref a1, .ref a2, .ref a3, .int 0, .int 0, .ref a4, .ref a5, .ref a6, .ref a7])), (a2, .inr (2, [.ref a8, .ref a9, .int 0, .int 0, .int 0, .int 0, .int 0, .int (-1)])), (a10, .inr (10, [.ref a11, .ref a12, .int 0, .int 0, .int 0, .int (-1), .int 0, .int 0, .int 0, .int 0, .long 0, .ref a13, .ref a14, .ref a15, .ref a16, .ref a17, .ref a18, .ref a19, .ref a20, .ref a21, .ref a22, .ref a23, .ref a24, .ref a25, .ref a26, .ref a27, .ref a28, .ref a29, .ref a30, .ref a31, .ref a32, .ref a33, .ref a34, .ref a35, .ref a36, .ref a37, .ref a38, .ref a39, .ref a40, .ref a41, .int 0, .int 0, .ref a42, .ref a43, .int 0, .int 0, .int 0, .int 0, .ref a44, .int 0, .ref a45, .ref a46, .ref a47, .int 0, .int 0, .int 0, .int 0, .int 0, .int 0, .int 0, .int 0, .ref a48, .int 0, .ref a49, .ref a50, .ref a51, .ref a52, .int 0, .int 0]))]) (hS : va_S A s.heap H locs) (hl : lv_has ls 4 [(3, .int 0), (2, .ref a10), (1, .ref a0), (0, .ref b)]) : W p l e room_1 s m #[Value.ref b] below meth c H locs 1000 1000000 (lw_Z below #[Value.ref b] s) (F0 m 267 ls []) := by
  obtain ⟨hx, hb, hml, hown, hts⟩ := id hC
  refine lv_aload_n hx hb dL_law_267 rfl (lv_at hl 2 rfl) ?_
  refine lv_aload_n hx hb dL_law_268 rfl (lv_at hl 3 rfl) ?_
  refine lv_iload_n hx hb dL_law_269 rfl (lv_at hl 0 rfl) ?_
  refine lv_iconst (v := 1) hx hb dL_law_270 (by decide) ?_
  refine lv_iadd hx hb dL_law_271 ?_
  refine k_i 1 (by decide +kernel) ?_
  refine va_sld hx hb hX hbl hbA hS (i := 1) (k_in (k := 1) (by decide +kernel) (by decide)) dL_law_272 ?_
  refine k_i (xs 1) (congrArg xs (by decide +kernel)) ?_
  refine k_ci (wr := [(a10, .inr (10, [.ref a11, .ref a12, .int 0, .int 0, .int 0, .int (-1), .int 0, .int 0, .int 0, .int 0, .long 0, .ref a13, .ref a14, .ref a15, .ref a16, .ref a17, .ref a18, .ref a19, .ref a20, .ref a21, .ref a22, .ref a23, .ref a24, .ref a25, .ref a26, .ref a27, .ref a28, .ref a29, .ref a30, .ref a31, .ref a32, .ref a33, .ref a34, .ref a35, .ref a36, .ref a37, .ref a38, .ref a39, .ref a40, .ref a41, .int 0, .int 0, .ref a42, .ref a43, .int 0, .int 0, .int 0, .int 0, .ref a44, .int 0, .ref a45, .ref a46, .ref a47, .int 0, .int 0, .int 0, .int 0, .int 0, .int 0, .int 0, .int 0, .ref a48, .int 0, .ref a49, .ref a50, .ref a51, .ref a52, .int 0, .int 0]))]) (k_rV hC hN hK hP hD (c29_X9_fault l G cI cJ cB cZ a0 a1 a2 a3 a4 a5 a6 a7 a8 a9 (xs 1)) [0, 1] rfl (by decide) mi_X9_fault in_X9_fault se_X9_fault wm_L_28 9 0 rfl rfl rfl hl.1 rfl rfl (Nat.le_of_ble_eq_true rfl) ⟨(Nat.le_of_ble_eq_true rfl), (Nat.le_of_ble_eq_true rfl)⟩ dL_law_273 ⟨(Nat.le_of_ble_eq_true rfl), (Nat.le_of_ble_eq_true rfl)⟩) hP hD hS hA [0, 1] [2] rfl rfl (by decide) (by decide) (fun r1 u1 H locs hp hP hD hS => ?_)
  have hP : va_P G cl [(a10, .inr (10, [.ref a11, .ref a12, .int 0, .int 0, .int 0, .int (-1), .int 0, .int 0, .int 0, .int 0, .long 0, .ref a13, .ref a14, .ref a15, .ref a16, .ref a17, .ref a18, .ref a19, .ref a20, .ref a21, .ref a22, .ref a23, .ref a24, .ref a25, .ref a26, .ref a27, .ref a28, .ref a29, .ref a30, .ref a31, .ref a32, .ref a33, .ref a34, .ref a35, .ref a36, .ref a37, .ref a38, .ref a39, .ref a40, .ref a41, .int 0, .int 0, .ref a42, .ref a43, .int 0, .int 0, .int 0, .int 0, .ref a44, .int 0, .ref a45, .ref a46, .ref a47, .int 0, .int 0, .int 0, .int 0, .int 0, .int 0, .int 0, .int 0, .ref a48, .int 0, .ref a49, .ref a50, .ref a51, .ref a52, .int 0, .int 0]))] H := hP
  have hD : va_D A [(a10, .inr (10, [.ref a11, .ref a12, .int 0, .int 0, .int 0, .int (-1), .int 0, .int 0, .int 0, .int 0, .long 0, .ref a13, .ref a14, .ref a15, .ref a16, .ref a17, .ref a18, .ref a19, .ref a20, .ref a21, .ref a22, .ref a23, .ref a24, .ref a25, .ref a26, .ref a27, .ref a28, .ref a29, .ref a30, .ref a31, .ref a32, .ref a33, .ref a34, .ref a35, .ref a36, .ref a37, .ref a38, .ref a39, .ref a40, .ref a41, .int 0, .int 0, .ref a42, .ref a43, .int 0, .int 0, .int 0, .int 0, .ref a44, .int 0, .ref a45, .ref a46, .ref a47, .int 0, .int 0, .int 0, .int 0, .int 0, .int 0, .int 0, .int 0, .ref a48, .int 0, .ref a49, .ref a50, .ref a51, .ref a52, .int 0, .int 0]))] := hD
  have hp1 := hp
  refine lv_aload_n hx hb dL_law_276 rfl (lv_at hl 1 rfl) ?_
  refine lv_aload_n hx hb dL_law_277 rfl (lv_at hl 3 rfl) ?_
  refine lv_iload_n hx hb dL_law_278 rfl (lv_at hl 0 rfl) ?_
  refine lv_iconst (v := 1) hx hb dL_law_279 (by decide) ?_
  refine lv_iadd hx hb dL_law_280 ?_
  refine k_i 1 (by decide +kernel) ?_
  refine va_sld hx hb hX hbl hbA hS (i := 1) (k_in (k := 1) (by decide +kernel) (by decide)) dL_law_281 ?_
  refine k_i (xs 1) (congrArg xs (by decide +kernel)) ?_
  refine k_ci (wr := []) (k_rV hC hN hK hP hD (c135_X10_fault l G cI cJ cB cZ a10 a11 a12 a13 a14 a15 a16 a17 a18 a19 a20 a21 a22 a23 a24 a25 a26 a27 a28 a29 a30 a31 a32 a33 a34 a35 a36 a37 a38 a39 a40 a41 a42 a43 a44 a45 a46 a47 a48 a49 a50 a51 a52 (xs 1)) [0] rfl (by decide) mi_X10_fault in_X10_fault se_X10_fault wm_L_31 10 0 rfl rfl rfl hl.1 rfl rfl (Nat.le_of_ble_eq_true rfl) ⟨(Nat.le_of_ble_eq_true rfl), (Nat.le_of_ble_eq_true rfl)⟩ dL_law_282 ⟨(Nat.le_of_ble_eq_true rfl), (Nat.le_of_ble_eq_true rfl)⟩) hP hD hS hA [0] [] rfl rfl (by decide) (by decide) (fun r2 u2 H locs hp hP hD hS => ?_)
  have hP : va_P G cl [] H := hP
  have hD : va_D A [] := hD
  have hp2 := hp
  refine lv_icmp_eq (tgt := 1428) hx hb dL_law_285 (by decide) (fun _ => ?_) (fun c_ => absurd (hp1.trans hp2.symm) c_)
  exact law_tail hC hr hlk hX hbl hbA hfo hS hl (Nat.le_of_ble_eq_true rfl) (Nat.le_of_ble_eq_true rfl)
set_option maxRecDepth 100000 in
theorem wm_L_32 : Cond.methodLink RL 32 yX9_weighed ∈ gw := gm (List.mem_of_getElem? (i := 738) (by decide +kernel)) rfl
set_option maxRecDepth 100000 in
theorem mi_X9_weighed : MI yX9_weighed cX9_weighed 7 (some .int) 5 := ⟨gm (List.mem_of_getElem? (i := 741) rfl) rfl, gm (List.mem_of_getElem? (i := 112) (by decide +kernel)) rfl, by decide, by decide, by decide +kernel⟩
set_option maxRecDepth 100000 in
theorem in_X9_weighed : Cond.instanceMethod yX9_weighed ∈ gw := gm (List.mem_of_getElem? (i := 739) (by decide +kernel)) rfl
set_option maxRecDepth 100000 in
theorem se_X9_weighed : Cond.selects yX9_weighed.cls yX9_weighed yX9_weighed ∈ gw := gm (List.mem_of_getElem? (i := 740) (by decide +kernel)) rfl
set_option maxRecDepth 100000 in
theorem wm_L_35 : Cond.methodLink RL 35 yX10_weighed ∈ gw := gm (List.mem_of_getElem? (i := 1579) (by decide +kernel)) rfl
set_option maxRecDepth 100000 in
theorem mi_X10_weighed : MI yX10_weighed cX10_weighed 7 (some .int) 5 := ⟨gm (List.mem_of_getElem? (i := 1582) rfl) rfl, gm (List.mem_of_getElem? (i := 124) (by decide +kernel)) rfl, by decide, by decide, by decide +kernel⟩
set_option maxRecDepth 100000 in
theorem in_X10_weighed : Cond.instanceMethod yX10_weighed ∈ gw := gm (List.mem_of_getElem? (i := 1580) (by decide +kernel)) rfl
set_option maxRecDepth 100000 in
theorem se_X10_weighed : Cond.selects yX10_weighed.cls yX10_weighed yX10_weighed ∈ gw := gm (List.mem_of_getElem? (i := 1581) (by decide +kernel)) rfl
set_option maxHeartbeats 4000000 in
set_option maxRecDepth 100000 in
theorem law_weighed {p : Program} {l : Launch} {e : Env} {s : State} {m : MethodId} {below : List Frame} {meth : Method} {c : Code} {b : Nat} {xs : Nat → Int32} {A : Nat → Prop} {H : Heap} {locs : List Loc} {ls : Array Slot} {G : va_G} {cI cJ cB cZ : ClassId} (a0 a1 a2 a3 a4 a5 a6 a7 a8 a9 a10 a11 a12 a13 a14 a15 a16 a17 a18 a19 a20 a21 a22 a23 a24 a25 a26 a27 a28 a29 a30 a31 a32 a33 a34 a35 a36 a37 a38 a39 a40 a41 a42 a43 a44 a45 a46 a47 a48 a49 a50 a51 a52 a53 a54 a55 a56 a57 a58 a59 a60 a61 : Nat) (hC : CallFix p m c code 4 s #[Value.ref b] gw R_law) (hr : meth.sig.returnType = ret) (hlk : meth.locks = false) (hN : NW s) (hK : va_K G cl (TY cI cJ cB cZ) s) (hX : va_X b 6 xs s s.heap) (hbl : b < s.heap.size) (hA : ∀ q, s.heap.size ≤ q → A q) (hbA : ¬ A b) (hfo : ∀ q, A q → s.heap.size ≤ q) (hP : va_P G cl [(a0, .inr (9, [.ref a1, .ref a2, .ref a3, .int 0, .int 0, .ref a4, .ref a5, .ref a6, .ref a7])), (a1, .inr (7, [.int 100, .int 100, .int 0, .ref a8, .ref a9, .int 0, .ref a10, .ref a11, .ref a12, .ref a13, .ref a14, .ref a15, .ref a16, .ref a17, .ref a18])), (a19, .inr (10, [.ref a20, .ref a21, .int 0, .int 0, .int 0, .int (-1), .int 0, .int 0, .int 0, .int 0, .long 0, .ref a22, .ref a23, .ref a24, .ref a25, .ref a26, .ref a27, .ref a28, .ref a29, .ref a30, .ref a31, .ref a32, .ref a33, .ref a34, .ref a35, .ref a36, .ref a37, .ref a38, .ref a39, .ref a40, .ref a41, .ref a42, .ref a43, .ref a44, .ref a45, .ref a46, .ref a47, .ref a48, .ref a49, .ref a50, .int 0, .int 0, .ref a51, .ref a52, .int 0, .int 0, .int 0, .int 0, .ref a53, .int 0, .ref a54, .ref a55, .ref a56, .int 0, .int 0, .int 0, .int 0, .int 0, .int 0, .int 0, .int 0, .ref a57, .int 0, .ref a58, .ref a59, .ref a60, .ref a61, .int 0, .int 0])), (a31, .inl (cI, 2, .inl (fun _ => 0)))] H) (hD : va_D A [(a0, .inr (9, [.ref a1, .ref a2, .ref a3, .int 0, .int 0, .ref a4, .ref a5, .ref a6, .ref a7])), (a1, .inr (7, [.int 100, .int 100, .int 0, .ref a8, .ref a9, .int 0, .ref a10, .ref a11, .ref a12, .ref a13, .ref a14, .ref a15, .ref a16, .ref a17, .ref a18])), (a19, .inr (10, [.ref a20, .ref a21, .int 0, .int 0, .int 0, .int (-1), .int 0, .int 0, .int 0, .int 0, .long 0, .ref a22, .ref a23, .ref a24, .ref a25, .ref a26, .ref a27, .ref a28, .ref a29, .ref a30, .ref a31, .ref a32, .ref a33, .ref a34, .ref a35, .ref a36, .ref a37, .ref a38, .ref a39, .ref a40, .ref a41, .ref a42, .ref a43, .ref a44, .ref a45, .ref a46, .ref a47, .ref a48, .ref a49, .ref a50, .int 0, .int 0, .ref a51, .ref a52, .int 0, .int 0, .int 0, .int 0, .ref a53, .int 0, .ref a54, .ref a55, .ref a56, .int 0, .int 0, .int 0, .int 0, .int 0, .int 0, .int 0, .int 0, .ref a57, .int 0, .ref a58, .ref a59, .ref a60, .ref a61, .int 0, .int 0])), (a31, .inl (cI, 2, .inl (fun _ => 0)))]) (hS : va_S A s.heap H locs) (hl : lv_has ls 4 [(3, .int 0), (2, .ref a19), (1, .ref a0), (0, .ref b)]) : W p l e room_1 s m #[Value.ref b] below meth c H locs 1000 1000000 (lw_Z below #[Value.ref b] s) (F0 m 290 ls []) := by
  obtain ⟨hx, hb, hml, hown, hts⟩ := id hC
  refine lv_aload_n hx hb dL_law_290 rfl (lv_at hl 2 rfl) ?_
  refine lv_aload_n hx hb dL_law_291 rfl (lv_at hl 3 rfl) ?_
  refine lv_iload_n hx hb dL_law_292 rfl (lv_at hl 0 rfl) ?_
  refine lv_iconst (v := 1) hx hb dL_law_293 (by decide) ?_
  refine lv_iadd hx hb dL_law_294 ?_
  refine k_i 1 (by decide +kernel) ?_
  refine va_sld hx hb hX hbl hbA hS (i := 1) (k_in (k := 1) (by decide +kernel) (by decide)) dL_law_295 ?_
  refine k_i (xs 1) (congrArg xs (by decide +kernel)) ?_
  refine lv_aload_n hx hb dL_law_296 rfl (lv_at hl 3 rfl) ?_
  refine lv_iload_n hx hb dL_law_297 rfl (lv_at hl 0 rfl) ?_
  refine lv_iconst (v := 2) hx hb dL_law_298 (by decide) ?_
  refine lv_iadd hx hb dL_law_299 ?_
  refine k_i 2 (by decide +kernel) ?_
  refine va_sld hx hb hX hbl hbA hS (i := 2) (k_in (k := 2) (by decide +kernel) (by decide)) dL_law_300 ?_
  refine k_i (xs 2) (congrArg xs (by decide +kernel)) ?_
  refine lv_aload_n hx hb dL_law_301 rfl (lv_at hl 3 rfl) ?_
  refine lv_iload_n hx hb dL_law_302 rfl (lv_at hl 0 rfl) ?_
  refine lv_iconst (v := 3) hx hb dL_law_303 (by decide) ?_
  refine lv_iadd hx hb dL_law_304 ?_
  refine k_i 3 (by decide +kernel) ?_
  refine va_sld hx hb hX hbl hbA hS (i := 3) (k_in (k := 3) (by decide +kernel) (by decide)) dL_law_305 ?_
  refine k_i (xs 3) (congrArg xs (by decide +kernel)) ?_
  refine lv_aload_n hx hb dL_law_306 rfl (lv_at hl 3 rfl) ?_
  refine lv_iload_n hx hb dL_law_307 rfl (lv_at hl 0 rfl) ?_
  refine lv_iconst (v := 4) hx hb dL_law_308 (by decide) ?_
  refine lv_iadd hx hb dL_law_309 ?_
  refine k_i 4 (by decide +kernel) ?_
  refine va_sld hx hb hX hbl hbA hS (i := 4) (k_in (k := 4) (by decide +kernel) (by decide)) dL_law_310 ?_
  refine k_i (xs 4) (congrArg xs (by decide +kernel)) ?_
  refine lv_aload_n hx hb dL_law_311 rfl (lv_at hl 3 rfl) ?_
  refine lv_iload_n hx hb dL_law_312 rfl (lv_at hl 0 rfl) ?_
  refine lv_iconst (v := 5) hx hb dL_law_313 (by decide) ?_
  refine lv_iadd hx hb dL_law_314 ?_
  refine k_i 5 (by decide +kernel) ?_
  refine va_sld hx hb hX hbl hbA hS (i := 5) (k_in (k := 5) (by decide +kernel) (by decide)) dL_law_315 ?_
  refine k_i (xs 5) (congrArg xs (by decide +kernel)) ?_
  refine k_ci (wr := [(a19, .inr (10, [.ref a20, .ref a21, .int 0, .int 0, .int 0, .int (-1), .int 0, .int 0, .int 0, .int 0, .long 0, .ref a22, .ref a23, .ref a24, .ref a25, .ref a26, .ref a27, .ref a28, .ref a29, .ref a30, .ref a31, .ref a32, .ref a33, .ref a34, .ref a35, .ref a36, .ref a37, .ref a38, .ref a39, .ref a40, .ref a41, .ref a42, .ref a43, .ref a44, .ref a45, .ref a46, .ref a47, .ref a48, .ref a49, .ref a50, .int 0, .int 0, .ref a51, .ref a52, .int 0, .int 0, .int 0, .int 0, .ref a53, .int 0, .ref a54, .ref a55, .ref a56, .int 0, .int 0, .int 0, .int 0, .int 0, .int 0, .int 0, .int 0, .ref a57, .int 0, .ref a58, .ref a59, .ref a60, .ref a61, .int 0, .int 0])), (a31, .inl (cI, 2, .inl (fun _ => 0)))]) (k_rV hC hN hK hP hD (c32_X9_weighed l G cI cJ cB cZ a0 a1 a2 a3 a4 a5 a6 a7 a8 a9 a10 a11 a12 a13 a14 a15 a16 a17 a18 (xs 1) (xs 2) (xs 3) (xs 4) (xs 5)) [0, 1] rfl (by decide) mi_X9_weighed in_X9_weighed se_X9_weighed wm_L_32 9 0 rfl rfl rfl hl.1 rfl rfl (Nat.le_of_ble_eq_true rfl) ⟨(Nat.le_of_ble_eq_true rfl), (Nat.le_of_ble_eq_true rfl)⟩ dL_law_316 ⟨(Nat.le_of_ble_eq_true rfl), (Nat.le_of_ble_eq_true rfl)⟩) hP hD hS hA [0, 1] [2, 3] rfl rfl (by decide) (by decide) (fun r1 u1 H locs hp hP hD hS => ?_)
  have hP : va_P G cl [(a19, .inr (10, [.ref a20, .ref a21, .int 0, .int 0, .int 0, .int (-1), .int 0, .int 0, .int 0, .int 0, .long 0, .ref a22, .ref a23, .ref a24, .ref a25, .ref a26, .ref a27, .ref a28, .ref a29, .ref a30, .ref a31, .ref a32, .ref a33, .ref a34, .ref a35, .ref a36, .ref a37, .ref a38, .ref a39, .ref a40, .ref a41, .ref a42, .ref a43, .ref a44, .ref a45, .ref a46, .ref a47, .ref a48, .ref a49, .ref a50, .int 0, .int 0, .ref a51, .ref a52, .int 0, .int 0, .int 0, .int 0, .ref a53, .int 0, .ref a54, .ref a55, .ref a56, .int 0, .int 0, .int 0, .int 0, .int 0, .int 0, .int 0, .int 0, .ref a57, .int 0, .ref a58, .ref a59, .ref a60, .ref a61, .int 0, .int 0])), (a31, .inl (cI, 2, .inl (fun _ => 0)))] H := hP
  have hD : va_D A [(a19, .inr (10, [.ref a20, .ref a21, .int 0, .int 0, .int 0, .int (-1), .int 0, .int 0, .int 0, .int 0, .long 0, .ref a22, .ref a23, .ref a24, .ref a25, .ref a26, .ref a27, .ref a28, .ref a29, .ref a30, .ref a31, .ref a32, .ref a33, .ref a34, .ref a35, .ref a36, .ref a37, .ref a38, .ref a39, .ref a40, .ref a41, .ref a42, .ref a43, .ref a44, .ref a45, .ref a46, .ref a47, .ref a48, .ref a49, .ref a50, .int 0, .int 0, .ref a51, .ref a52, .int 0, .int 0, .int 0, .int 0, .ref a53, .int 0, .ref a54, .ref a55, .ref a56, .int 0, .int 0, .int 0, .int 0, .int 0, .int 0, .int 0, .int 0, .ref a57, .int 0, .ref a58, .ref a59, .ref a60, .ref a61, .int 0, .int 0])), (a31, .inl (cI, 2, .inl (fun _ => 0)))] := hD
  subst hp
  refine lv_aload_n hx hb dL_law_319 rfl (lv_at hl 1 rfl) ?_
  refine lv_aload_n hx hb dL_law_320 rfl (lv_at hl 3 rfl) ?_
  refine lv_iload_n hx hb dL_law_321 rfl (lv_at hl 0 rfl) ?_
  refine lv_iconst (v := 1) hx hb dL_law_322 (by decide) ?_
  refine lv_iadd hx hb dL_law_323 ?_
  refine k_i 1 (by decide +kernel) ?_
  refine va_sld hx hb hX hbl hbA hS (i := 1) (k_in (k := 1) (by decide +kernel) (by decide)) dL_law_324 ?_
  refine k_i (xs 1) (congrArg xs (by decide +kernel)) ?_
  refine lv_aload_n hx hb dL_law_325 rfl (lv_at hl 3 rfl) ?_
  refine lv_iload_n hx hb dL_law_326 rfl (lv_at hl 0 rfl) ?_
  refine lv_iconst (v := 2) hx hb dL_law_327 (by decide) ?_
  refine lv_iadd hx hb dL_law_328 ?_
  refine k_i 2 (by decide +kernel) ?_
  refine va_sld hx hb hX hbl hbA hS (i := 2) (k_in (k := 2) (by decide +kernel) (by decide)) dL_law_329 ?_
  refine k_i (xs 2) (congrArg xs (by decide +kernel)) ?_
  refine lv_aload_n hx hb dL_law_330 rfl (lv_at hl 3 rfl) ?_
  refine lv_iload_n hx hb dL_law_331 rfl (lv_at hl 0 rfl) ?_
  refine lv_iconst (v := 3) hx hb dL_law_332 (by decide) ?_
  refine lv_iadd hx hb dL_law_333 ?_
  refine k_i 3 (by decide +kernel) ?_
  refine va_sld hx hb hX hbl hbA hS (i := 3) (k_in (k := 3) (by decide +kernel) (by decide)) dL_law_334 ?_
  refine k_i (xs 3) (congrArg xs (by decide +kernel)) ?_
  refine lv_aload_n hx hb dL_law_335 rfl (lv_at hl 3 rfl) ?_
  refine lv_iload_n hx hb dL_law_336 rfl (lv_at hl 0 rfl) ?_
  refine lv_iconst (v := 4) hx hb dL_law_337 (by decide) ?_
  refine lv_iadd hx hb dL_law_338 ?_
  refine k_i 4 (by decide +kernel) ?_
  refine va_sld hx hb hX hbl hbA hS (i := 4) (k_in (k := 4) (by decide +kernel) (by decide)) dL_law_339 ?_
  refine k_i (xs 4) (congrArg xs (by decide +kernel)) ?_
  refine lv_aload_n hx hb dL_law_340 rfl (lv_at hl 3 rfl) ?_
  refine lv_iload_n hx hb dL_law_341 rfl (lv_at hl 0 rfl) ?_
  refine lv_iconst (v := 5) hx hb dL_law_342 (by decide) ?_
  refine lv_iadd hx hb dL_law_343 ?_
  refine k_i 5 (by decide +kernel) ?_
  refine va_sld hx hb hX hbl hbA hS (i := 5) (k_in (k := 5) (by decide +kernel) (by decide)) dL_law_344 ?_
  refine k_i (xs 5) (congrArg xs (by decide +kernel)) ?_
  refine k_ci (wr := []) (k_rV hC hN hK hP hD (c139_X10_weighed l G cI cJ cB cZ a19 a20 a21 a22 a23 a24 a25 a26 a27 a28 a29 a30 a31 a32 a33 a34 a35 a36 a37 a38 a39 a40 a41 a42 a43 a44 a45 a46 a47 a48 a49 a50 a51 a52 a53 a54 a55 a56 a57 a58 a59 a60 a61 (xs 1) (xs 2) (xs 3) (xs 4) (xs 5)) [0, 1] rfl (by decide) mi_X10_weighed in_X10_weighed se_X10_weighed wm_L_35 10 0 rfl rfl rfl hl.1 rfl rfl (Nat.le_of_ble_eq_true rfl) ⟨(Nat.le_of_ble_eq_true rfl), (Nat.le_of_ble_eq_true rfl)⟩ dL_law_345 ⟨(Nat.le_of_ble_eq_true rfl), (Nat.le_of_ble_eq_true rfl)⟩) hP hD hS hA [0, 1] [] rfl rfl (by decide) (by decide) (fun r2 u2 H locs hp hP hD hS => ?_)
  have hP : va_P G cl [] H := hP
  have hD : va_D A [] := hD
  subst hp
  refine lv_icmp_eq (tgt := 1428) hx hb dL_law_348 (by decide) (fun _ => ?_) (fun c_ => absurd (by decide +kernel) c_)
  exact law_tail hC hr hlk hX hbl hbA hfo hS hl (Nat.le_of_ble_eq_true rfl) (Nat.le_of_ble_eq_true rfl)
set_option maxRecDepth 100000 in
theorem wm_L_36 : Cond.methodLink RL 36 yX9_untell ∈ gw := gm (List.mem_of_getElem? (i := 761) (by decide +kernel)) rfl
set_option maxRecDepth 100000 in
theorem mi_X9_untell : MI yX9_untell cX9_untell 2 (some .boolean) 1 := ⟨gm (List.mem_of_getElem? (i := 764) rfl) rfl, gm (List.mem_of_getElem? (i := 112) (by decide +kernel)) rfl, by decide, by decide, by decide +kernel⟩
set_option maxRecDepth 100000 in
theorem in_X9_untell : Cond.instanceMethod yX9_untell ∈ gw := gm (List.mem_of_getElem? (i := 762) (by decide +kernel)) rfl
set_option maxRecDepth 100000 in
theorem se_X9_untell : Cond.selects yX9_untell.cls yX9_untell yX9_untell ∈ gw := gm (List.mem_of_getElem? (i := 763) (by decide +kernel)) rfl
set_option maxRecDepth 100000 in
theorem wm_L_40 : Cond.methodLink RL 40 yX10_untell ∈ gw := gm (List.mem_of_getElem? (i := 1598) (by decide +kernel)) rfl
set_option maxRecDepth 100000 in
theorem mi_X10_untell : MI yX10_untell cX10_untell 2 (some .boolean) 1 := ⟨gm (List.mem_of_getElem? (i := 1601) rfl) rfl, gm (List.mem_of_getElem? (i := 124) (by decide +kernel)) rfl, by decide, by decide, by decide +kernel⟩
set_option maxRecDepth 100000 in
theorem in_X10_untell : Cond.instanceMethod yX10_untell ∈ gw := gm (List.mem_of_getElem? (i := 1599) (by decide +kernel)) rfl
set_option maxRecDepth 100000 in
theorem se_X10_untell : Cond.selects yX10_untell.cls yX10_untell yX10_untell ∈ gw := gm (List.mem_of_getElem? (i := 1600) (by decide +kernel)) rfl
set_option maxHeartbeats 4000000 in
set_option maxRecDepth 100000 in
theorem law_untell {p : Program} {l : Launch} {e : Env} {s : State} {m : MethodId} {below : List Frame} {meth : Method} {c : Code} {b : Nat} {xs : Nat → Int32} {A : Nat → Prop} {H : Heap} {locs : List Loc} {ls : Array Slot} {G : va_G} {cI cJ cB cZ : ClassId} (a0 a1 a2 a3 a4 a5 a6 a7 a8 a9 a10 a11 a12 a13 a14 a15 a16 a17 a18 a19 a20 a21 a22 a23 a24 a25 a26 a27 a28 a29 a30 a31 a32 a33 a34 a35 a36 a37 a38 a39 a40 a41 a42 a43 a44 a45 a46 a47 a48 a49 a50 a51 a52 a53 a54 a55 a56 a57 : Nat) (hC : CallFix p m c code 4 s #[Value.ref b] gw R_law) (hr : meth.sig.returnType = ret) (hlk : meth.locks = false) (hN : NW s) (hK : va_K G cl (TY cI cJ cB cZ) s) (hX : va_X b 6 xs s s.heap) (hbl : b < s.heap.size) (hA : ∀ q, s.heap.size ≤ q → A q) (hbA : ¬ A b) (hfo : ∀ q, A q → s.heap.size ≤ q) (hP : va_P G cl [(a0, .inr (9, [.ref a1, .ref a2, .ref a3, .int 0, .int 0, .ref a4, .ref a5, .ref a6, .ref a7])), (a3, .inr (8, [.ref a8, .ref a9, .ref a10, .ref a11, .ref a12, .ref a13, .ref a14, .int 0])), (a15, .inr (10, [.ref a16, .ref a17, .int 0, .int 0, .int 0, .int (-1), .int 0, .int 0, .int 0, .int 0, .long 0, .ref a18, .ref a19, .ref a20, .ref a21, .ref a22, .ref a23, .ref a24, .ref a25, .ref a26, .ref a27, .ref a28, .ref a29, .ref a30, .ref a31, .ref a32, .ref a33, .ref a34, .ref a35, .ref a36, .ref a37, .ref a38, .ref a39, .ref a40, .ref a41, .ref a42, .ref a43, .ref a44, .ref a45, .ref a46, .int 0, .int 0, .ref a47, .ref a48, .int 0, .int 0, .int 0, .int 0, .ref a49, .int 0, .ref a50, .ref a51, .ref a52, .int 0, .int 0, .int 0, .int 0, .int 0, .int 0, .int 0, .int 0, .ref a53, .int 0, .ref a54, .ref a55, .ref a56, .ref a57, .int 0, .int 0]))] H) (hD : va_D A [(a0, .inr (9, [.ref a1, .ref a2, .ref a3, .int 0, .int 0, .ref a4, .ref a5, .ref a6, .ref a7])), (a3, .inr (8, [.ref a8, .ref a9, .ref a10, .ref a11, .ref a12, .ref a13, .ref a14, .int 0])), (a15, .inr (10, [.ref a16, .ref a17, .int 0, .int 0, .int 0, .int (-1), .int 0, .int 0, .int 0, .int 0, .long 0, .ref a18, .ref a19, .ref a20, .ref a21, .ref a22, .ref a23, .ref a24, .ref a25, .ref a26, .ref a27, .ref a28, .ref a29, .ref a30, .ref a31, .ref a32, .ref a33, .ref a34, .ref a35, .ref a36, .ref a37, .ref a38, .ref a39, .ref a40, .ref a41, .ref a42, .ref a43, .ref a44, .ref a45, .ref a46, .int 0, .int 0, .ref a47, .ref a48, .int 0, .int 0, .int 0, .int 0, .ref a49, .int 0, .ref a50, .ref a51, .ref a52, .int 0, .int 0, .int 0, .int 0, .int 0, .int 0, .int 0, .int 0, .ref a53, .int 0, .ref a54, .ref a55, .ref a56, .ref a57, .int 0, .int 0]))]) (hS : va_S A s.heap H locs) (hl : lv_has ls 4 [(3, .int 0), (2, .ref a15), (1, .ref a0), (0, .ref b)]) : W p l e room_1 s m #[Value.ref b] below meth c H locs 1000 1000000 (lw_Z below #[Value.ref b] s) (F0 m 353 ls []) := by
  obtain ⟨hx, hb, hml, hown, hts⟩ := id hC
  refine lv_aload_n hx hb dL_law_353 rfl (lv_at hl 2 rfl) ?_
  refine lv_aload_n hx hb dL_law_354 rfl (lv_at hl 3 rfl) ?_
  refine lv_iload_n hx hb dL_law_355 rfl (lv_at hl 0 rfl) ?_
  refine lv_iconst (v := 1) hx hb dL_law_356 (by decide) ?_
  refine lv_iadd hx hb dL_law_357 ?_
  refine k_i 1 (by decide +kernel) ?_
  refine va_sld hx hb hX hbl hbA hS (i := 1) (k_in (k := 1) (by decide +kernel) (by decide)) dL_law_358 ?_
  refine k_i (xs 1) (congrArg xs (by decide +kernel)) ?_
  refine k_ci (wr := [(a15, .inr (10, [.ref a16, .ref a17, .int 0, .int 0, .int 0, .int (-1), .int 0, .int 0, .int 0, .int 0, .long 0, .ref a18, .ref a19, .ref a20, .ref a21, .ref a22, .ref a23, .ref a24, .ref a25, .ref a26, .ref a27, .ref a28, .ref a29, .ref a30, .ref a31, .ref a32, .ref a33, .ref a34, .ref a35, .ref a36, .ref a37, .ref a38, .ref a39, .ref a40, .ref a41, .ref a42, .ref a43, .ref a44, .ref a45, .ref a46, .int 0, .int 0, .ref a47, .ref a48, .int 0, .int 0, .int 0, .int 0, .ref a49, .int 0, .ref a50, .ref a51, .ref a52, .int 0, .int 0, .int 0, .int 0, .int 0, .int 0, .int 0, .int 0, .ref a53, .int 0, .ref a54, .ref a55, .ref a56, .ref a57, .int 0, .int 0]))]) (k_rV hC hN hK hP hD (c34_X9_untell l G cI cJ cB cZ a0 a1 a2 a3 a4 a5 a6 a7 a8 a9 a10 a11 a12 a13 a14 (xs 1)) [0, 1] rfl (by decide) mi_X9_untell in_X9_untell se_X9_untell wm_L_36 9 0 rfl rfl rfl hl.1 rfl rfl (Nat.le_of_ble_eq_true rfl) ⟨(Nat.le_of_ble_eq_true rfl), (Nat.le_of_ble_eq_true rfl)⟩ dL_law_359 ⟨(Nat.le_of_ble_eq_true rfl), (Nat.le_of_ble_eq_true rfl)⟩) hP hD hS hA [0, 1] [2] rfl rfl (by decide) (by decide) (fun r1 u1 H locs hp hP hD hS => ?_)
  have hP : va_P G cl [(a15, .inr (10, [.ref a16, .ref a17, .int 0, .int 0, .int 0, .int (-1), .int 0, .int 0, .int 0, .int 0, .long 0, .ref a18, .ref a19, .ref a20, .ref a21, .ref a22, .ref a23, .ref a24, .ref a25, .ref a26, .ref a27, .ref a28, .ref a29, .ref a30, .ref a31, .ref a32, .ref a33, .ref a34, .ref a35, .ref a36, .ref a37, .ref a38, .ref a39, .ref a40, .ref a41, .ref a42, .ref a43, .ref a44, .ref a45, .ref a46, .int 0, .int 0, .ref a47, .ref a48, .int 0, .int 0, .int 0, .int 0, .ref a49, .int 0, .ref a50, .ref a51, .ref a52, .int 0, .int 0, .int 0, .int 0, .int 0, .int 0, .int 0, .int 0, .ref a53, .int 0, .ref a54, .ref a55, .ref a56, .ref a57, .int 0, .int 0]))] H := hP
  have hD : va_D A [(a15, .inr (10, [.ref a16, .ref a17, .int 0, .int 0, .int 0, .int (-1), .int 0, .int 0, .int 0, .int 0, .long 0, .ref a18, .ref a19, .ref a20, .ref a21, .ref a22, .ref a23, .ref a24, .ref a25, .ref a26, .ref a27, .ref a28, .ref a29, .ref a30, .ref a31, .ref a32, .ref a33, .ref a34, .ref a35, .ref a36, .ref a37, .ref a38, .ref a39, .ref a40, .ref a41, .ref a42, .ref a43, .ref a44, .ref a45, .ref a46, .int 0, .int 0, .ref a47, .ref a48, .int 0, .int 0, .int 0, .int 0, .ref a49, .int 0, .ref a50, .ref a51, .ref a52, .int 0, .int 0, .int 0, .int 0, .int 0, .int 0, .int 0, .int 0, .ref a53, .int 0, .ref a54, .ref a55, .ref a56, .ref a57, .int 0, .int 0]))] := hD
  subst hp
  refine lv_aload_n hx hb dL_law_362 rfl (lv_at hl 1 rfl) ?_
  refine lv_aload_n hx hb dL_law_363 rfl (lv_at hl 3 rfl) ?_
  refine lv_iload_n hx hb dL_law_364 rfl (lv_at hl 0 rfl) ?_
  refine lv_iconst (v := 1) hx hb dL_law_365 (by decide) ?_
  refine lv_iadd hx hb dL_law_366 ?_
  refine k_i 1 (by decide +kernel) ?_
  refine va_sld hx hb hX hbl hbA hS (i := 1) (k_in (k := 1) (by decide +kernel) (by decide)) dL_law_367 ?_
  refine k_i (xs 1) (congrArg xs (by decide +kernel)) ?_
  refine k_ci (wr := []) (k_rV hC hN hK hP hD (c141_X10_untell l G cI cJ cB cZ a15 a16 a17 a18 a19 a20 a21 a22 a23 a24 a25 a26 a27 a28 a29 a30 a31 a32 a33 a34 a35 a36 a37 a38 a39 a40 a41 a42 a43 a44 a45 a46 a47 a48 a49 a50 a51 a52 a53 a54 a55 a56 a57 (xs 1)) [0] rfl (by decide) mi_X10_untell in_X10_untell se_X10_untell wm_L_40 10 0 rfl rfl rfl hl.1 rfl rfl (Nat.le_of_ble_eq_true rfl) ⟨(Nat.le_of_ble_eq_true rfl), (Nat.le_of_ble_eq_true rfl)⟩ dL_law_368 ⟨(Nat.le_of_ble_eq_true rfl), (Nat.le_of_ble_eq_true rfl)⟩) hP hD hS hA [0] [] rfl rfl (by decide) (by decide) (fun r2 u2 H locs hp hP hD hS => ?_)
  have hP : va_P G cl [] H := hP
  have hD : va_D A [] := hD
  subst hp
  refine lv_icmp_eq (tgt := 1428) hx hb dL_law_371 (by decide) (fun _ => ?_) (fun c_ => absurd (by decide +kernel) c_)
  exact law_tail hC hr hlk hX hbl hbA hfo hS hl (Nat.le_of_ble_eq_true rfl) (Nat.le_of_ble_eq_true rfl)
set_option maxRecDepth 100000 in
theorem wm_L_41 : Cond.methodLink RL 41 yX9_later ∈ gw := gm (List.mem_of_getElem? (i := 769) (by decide +kernel)) rfl
set_option maxRecDepth 100000 in
theorem mi_X9_later : MI yX9_later cX9_later 2 (some .int) 1 := ⟨gm (List.mem_of_getElem? (i := 772) rfl) rfl, gm (List.mem_of_getElem? (i := 112) (by decide +kernel)) rfl, by decide, by decide, by decide +kernel⟩
set_option maxRecDepth 100000 in
theorem in_X9_later : Cond.instanceMethod yX9_later ∈ gw := gm (List.mem_of_getElem? (i := 770) (by decide +kernel)) rfl
set_option maxRecDepth 100000 in
theorem se_X9_later : Cond.selects yX9_later.cls yX9_later yX9_later ∈ gw := gm (List.mem_of_getElem? (i := 771) (by decide +kernel)) rfl
set_option maxRecDepth 100000 in
theorem wm_L_44 : Cond.methodLink RL 44 yX10_later ∈ gw := gm (List.mem_of_getElem? (i := 1602) (by decide +kernel)) rfl
set_option maxRecDepth 100000 in
theorem mi_X10_later : MI yX10_later cX10_later 2 (some .int) 1 := ⟨gm (List.mem_of_getElem? (i := 1605) rfl) rfl, gm (List.mem_of_getElem? (i := 124) (by decide +kernel)) rfl, by decide, by decide, by decide +kernel⟩
set_option maxRecDepth 100000 in
theorem in_X10_later : Cond.instanceMethod yX10_later ∈ gw := gm (List.mem_of_getElem? (i := 1603) (by decide +kernel)) rfl
set_option maxRecDepth 100000 in
theorem se_X10_later : Cond.selects yX10_later.cls yX10_later yX10_later ∈ gw := gm (List.mem_of_getElem? (i := 1604) (by decide +kernel)) rfl
set_option maxHeartbeats 4000000 in
set_option maxRecDepth 100000 in
theorem law_later {p : Program} {l : Launch} {e : Env} {s : State} {m : MethodId} {below : List Frame} {meth : Method} {c : Code} {b : Nat} {xs : Nat → Int32} {A : Nat → Prop} {H : Heap} {locs : List Loc} {ls : Array Slot} {G : va_G} {cI cJ cB cZ : ClassId} (a0 a1 a2 a3 a4 a5 a6 a7 a8 a9 a10 a11 a12 a13 a14 a15 a16 a17 a18 a19 a20 a21 a22 a23 a24 a25 a26 a27 a28 a29 a30 a31 a32 a33 a34 a35 a36 a37 a38 a39 a40 a41 a42 a43 a44 a45 a46 a47 a48 a49 a50 : Nat) (hC : CallFix p m c code 4 s #[Value.ref b] gw R_law) (hr : meth.sig.returnType = ret) (hlk : meth.locks = false) (hN : NW s) (hK : va_K G cl (TY cI cJ cB cZ) s) (hX : va_X b 6 xs s s.heap) (hbl : b < s.heap.size) (hA : ∀ q, s.heap.size ≤ q → A q) (hbA : ¬ A b) (hfo : ∀ q, A q → s.heap.size ≤ q) (hP : va_P G cl [(a0, .inr (9, [.ref a1, .ref a2, .ref a3, .int 0, .int 0, .ref a4, .ref a5, .ref a6, .ref a7])), (a8, .inr (10, [.ref a9, .ref a10, .int 0, .int 0, .int 0, .int (-1), .int 0, .int 0, .int 0, .int 0, .long 0, .ref a11, .ref a12, .ref a13, .ref a14, .ref a15, .ref a16, .ref a17, .ref a18, .ref a19, .ref a20, .ref a21, .ref a22, .ref a23, .ref a24, .ref a25, .ref a26, .ref a27, .ref a28, .ref a29, .ref a30, .ref a31, .ref a32, .ref a33, .ref a34, .ref a35, .ref a36, .ref a37, .ref a38, .ref a39, .int 0, .int 0, .ref a40, .ref a41, .int 0, .int 0, .int 0, .int 0, .ref a42, .int 0, .ref a43, .ref a44, .ref a45, .int 0, .int 0, .int 0, .int 0, .int 0, .int 0, .int 0, .int 0, .ref a46, .int 0, .ref a47, .ref a48, .ref a49, .ref a50, .int 0, .int 0]))] H) (hD : va_D A [(a0, .inr (9, [.ref a1, .ref a2, .ref a3, .int 0, .int 0, .ref a4, .ref a5, .ref a6, .ref a7])), (a8, .inr (10, [.ref a9, .ref a10, .int 0, .int 0, .int 0, .int (-1), .int 0, .int 0, .int 0, .int 0, .long 0, .ref a11, .ref a12, .ref a13, .ref a14, .ref a15, .ref a16, .ref a17, .ref a18, .ref a19, .ref a20, .ref a21, .ref a22, .ref a23, .ref a24, .ref a25, .ref a26, .ref a27, .ref a28, .ref a29, .ref a30, .ref a31, .ref a32, .ref a33, .ref a34, .ref a35, .ref a36, .ref a37, .ref a38, .ref a39, .int 0, .int 0, .ref a40, .ref a41, .int 0, .int 0, .int 0, .int 0, .ref a42, .int 0, .ref a43, .ref a44, .ref a45, .int 0, .int 0, .int 0, .int 0, .int 0, .int 0, .int 0, .int 0, .ref a46, .int 0, .ref a47, .ref a48, .ref a49, .ref a50, .int 0, .int 0]))]) (hS : va_S A s.heap H locs) (hl : lv_has ls 4 [(3, .int 0), (2, .ref a8), (1, .ref a0), (0, .ref b)]) : W p l e room_1 s m #[Value.ref b] below meth c H locs 1000 1000000 (lw_Z below #[Value.ref b] s) (F0 m 376 ls []) := by
  obtain ⟨hx, hb, hml, hown, hts⟩ := id hC
  refine lv_aload_n hx hb dL_law_376 rfl (lv_at hl 2 rfl) ?_
  refine lv_aload_n hx hb dL_law_377 rfl (lv_at hl 3 rfl) ?_
  refine lv_iload_n hx hb dL_law_378 rfl (lv_at hl 0 rfl) ?_
  refine lv_iconst (v := 1) hx hb dL_law_379 (by decide) ?_
  refine lv_iadd hx hb dL_law_380 ?_
  refine k_i 1 (by decide +kernel) ?_
  refine va_sld hx hb hX hbl hbA hS (i := 1) (k_in (k := 1) (by decide +kernel) (by decide)) dL_law_381 ?_
  refine k_i (xs 1) (congrArg xs (by decide +kernel)) ?_
  refine k_ci (wr := [(a8, .inr (10, [.ref a9, .ref a10, .int 0, .int 0, .int 0, .int (-1), .int 0, .int 0, .int 0, .int 0, .long 0, .ref a11, .ref a12, .ref a13, .ref a14, .ref a15, .ref a16, .ref a17, .ref a18, .ref a19, .ref a20, .ref a21, .ref a22, .ref a23, .ref a24, .ref a25, .ref a26, .ref a27, .ref a28, .ref a29, .ref a30, .ref a31, .ref a32, .ref a33, .ref a34, .ref a35, .ref a36, .ref a37, .ref a38, .ref a39, .int 0, .int 0, .ref a40, .ref a41, .int 0, .int 0, .int 0, .int 0, .ref a42, .int 0, .ref a43, .ref a44, .ref a45, .int 0, .int 0, .int 0, .int 0, .int 0, .int 0, .int 0, .int 0, .ref a46, .int 0, .ref a47, .ref a48, .ref a49, .ref a50, .int 0, .int 0]))]) (k_rV hC hN hK hP hD (c35_X9_later l G cI cJ cB cZ a0 a1 a2 a3 a4 a5 a6 a7 (xs 1)) [0] rfl (by decide) mi_X9_later in_X9_later se_X9_later wm_L_41 9 0 rfl rfl rfl hl.1 rfl rfl (Nat.le_of_ble_eq_true rfl) ⟨(Nat.le_of_ble_eq_true rfl), (Nat.le_of_ble_eq_true rfl)⟩ dL_law_382 ⟨(Nat.le_of_ble_eq_true rfl), (Nat.le_of_ble_eq_true rfl)⟩) hP hD hS hA [0] [1] rfl rfl (by decide) (by decide) (fun r1 u1 H locs hp hP hD hS => ?_)
  have hP : va_P G cl [(a8, .inr (10, [.ref a9, .ref a10, .int 0, .int 0, .int 0, .int (-1), .int 0, .int 0, .int 0, .int 0, .long 0, .ref a11, .ref a12, .ref a13, .ref a14, .ref a15, .ref a16, .ref a17, .ref a18, .ref a19, .ref a20, .ref a21, .ref a22, .ref a23, .ref a24, .ref a25, .ref a26, .ref a27, .ref a28, .ref a29, .ref a30, .ref a31, .ref a32, .ref a33, .ref a34, .ref a35, .ref a36, .ref a37, .ref a38, .ref a39, .int 0, .int 0, .ref a40, .ref a41, .int 0, .int 0, .int 0, .int 0, .ref a42, .int 0, .ref a43, .ref a44, .ref a45, .int 0, .int 0, .int 0, .int 0, .int 0, .int 0, .int 0, .int 0, .ref a46, .int 0, .ref a47, .ref a48, .ref a49, .ref a50, .int 0, .int 0]))] H := hP
  have hD : va_D A [(a8, .inr (10, [.ref a9, .ref a10, .int 0, .int 0, .int 0, .int (-1), .int 0, .int 0, .int 0, .int 0, .long 0, .ref a11, .ref a12, .ref a13, .ref a14, .ref a15, .ref a16, .ref a17, .ref a18, .ref a19, .ref a20, .ref a21, .ref a22, .ref a23, .ref a24, .ref a25, .ref a26, .ref a27, .ref a28, .ref a29, .ref a30, .ref a31, .ref a32, .ref a33, .ref a34, .ref a35, .ref a36, .ref a37, .ref a38, .ref a39, .int 0, .int 0, .ref a40, .ref a41, .int 0, .int 0, .int 0, .int 0, .ref a42, .int 0, .ref a43, .ref a44, .ref a45, .int 0, .int 0, .int 0, .int 0, .int 0, .int 0, .int 0, .int 0, .ref a46, .int 0, .ref a47, .ref a48, .ref a49, .ref a50, .int 0, .int 0]))] := hD
  have hp1 := hp
  refine lv_aload_n hx hb dL_law_385 rfl (lv_at hl 1 rfl) ?_
  refine lv_aload_n hx hb dL_law_386 rfl (lv_at hl 3 rfl) ?_
  refine lv_iload_n hx hb dL_law_387 rfl (lv_at hl 0 rfl) ?_
  refine lv_iconst (v := 1) hx hb dL_law_388 (by decide) ?_
  refine lv_iadd hx hb dL_law_389 ?_
  refine k_i 1 (by decide +kernel) ?_
  refine va_sld hx hb hX hbl hbA hS (i := 1) (k_in (k := 1) (by decide +kernel) (by decide)) dL_law_390 ?_
  refine k_i (xs 1) (congrArg xs (by decide +kernel)) ?_
  refine k_ci (wr := []) (k_rV hC hN hK hP hD (c143_X10_later l G cI cJ cB cZ a8 a9 a10 a11 a12 a13 a14 a15 a16 a17 a18 a19 a20 a21 a22 a23 a24 a25 a26 a27 a28 a29 a30 a31 a32 a33 a34 a35 a36 a37 a38 a39 a40 a41 a42 a43 a44 a45 a46 a47 a48 a49 a50 (xs 1)) [0] rfl (by decide) mi_X10_later in_X10_later se_X10_later wm_L_44 10 0 rfl rfl rfl hl.1 rfl rfl (Nat.le_of_ble_eq_true rfl) ⟨(Nat.le_of_ble_eq_true rfl), (Nat.le_of_ble_eq_true rfl)⟩ dL_law_391 ⟨(Nat.le_of_ble_eq_true rfl), (Nat.le_of_ble_eq_true rfl)⟩) hP hD hS hA [0] [] rfl rfl (by decide) (by decide) (fun r2 u2 H locs hp hP hD hS => ?_)
  have hP : va_P G cl [] H := hP
  have hD : va_D A [] := hD
  have hp2 := hp
  refine lv_icmp_eq (tgt := 1428) hx hb dL_law_394 (by decide) (fun _ => ?_) (fun c_ => absurd (hp1.trans hp2.symm) c_)
  exact law_tail hC hr hlk hX hbl hbA hfo hS hl (Nat.le_of_ble_eq_true rfl) (Nat.le_of_ble_eq_true rfl)
set_option maxRecDepth 100000 in
theorem wm_L_45 : Cond.methodLink RL 45 yX9_doubt ∈ gw := gm (List.mem_of_getElem? (i := 774) (by decide +kernel)) rfl
set_option maxRecDepth 100000 in
theorem mi_X9_doubt : MI yX9_doubt cX9_doubt 3 (some .boolean) 2 := ⟨gm (List.mem_of_getElem? (i := 777) rfl) rfl, gm (List.mem_of_getElem? (i := 112) (by decide +kernel)) rfl, by decide, by decide, by decide +kernel⟩
set_option maxRecDepth 100000 in
theorem in_X9_doubt : Cond.instanceMethod yX9_doubt ∈ gw := gm (List.mem_of_getElem? (i := 775) (by decide +kernel)) rfl
set_option maxRecDepth 100000 in
theorem se_X9_doubt : Cond.selects yX9_doubt.cls yX9_doubt yX9_doubt ∈ gw := gm (List.mem_of_getElem? (i := 776) (by decide +kernel)) rfl
set_option maxRecDepth 100000 in
theorem wm_L_49 : Cond.methodLink RL 49 yX10_doubt ∈ gw := gm (List.mem_of_getElem? (i := 1607) (by decide +kernel)) rfl
set_option maxRecDepth 100000 in
theorem mi_X10_doubt : MI yX10_doubt cX10_doubt 3 (some .boolean) 2 := ⟨gm (List.mem_of_getElem? (i := 1610) rfl) rfl, gm (List.mem_of_getElem? (i := 124) (by decide +kernel)) rfl, by decide, by decide, by decide +kernel⟩
set_option maxRecDepth 100000 in
theorem in_X10_doubt : Cond.instanceMethod yX10_doubt ∈ gw := gm (List.mem_of_getElem? (i := 1608) (by decide +kernel)) rfl
set_option maxRecDepth 100000 in
theorem se_X10_doubt : Cond.selects yX10_doubt.cls yX10_doubt yX10_doubt ∈ gw := gm (List.mem_of_getElem? (i := 1609) (by decide +kernel)) rfl
set_option maxHeartbeats 4000000 in
set_option maxRecDepth 100000 in
theorem law_doubt {p : Program} {l : Launch} {e : Env} {s : State} {m : MethodId} {below : List Frame} {meth : Method} {c : Code} {b : Nat} {xs : Nat → Int32} {A : Nat → Prop} {H : Heap} {locs : List Loc} {ls : Array Slot} {G : va_G} {cI cJ cB cZ : ClassId} (a0 a1 a2 a3 a4 a5 a6 a7 a8 a9 a10 a11 a12 a13 a14 a15 a16 a17 a18 a19 a20 a21 a22 a23 a24 a25 a26 a27 a28 a29 a30 a31 a32 a33 a34 a35 a36 a37 a38 a39 a40 a41 a42 a43 a44 a45 a46 a47 a48 a49 a50 : Nat) (hC : CallFix p m c code 4 s #[Value.ref b] gw R_law) (hr : meth.sig.returnType = ret) (hlk : meth.locks = false) (hN : NW s) (hK : va_K G cl (TY cI cJ cB cZ) s) (hX : va_X b 6 xs s s.heap) (hbl : b < s.heap.size) (hA : ∀ q, s.heap.size ≤ q → A q) (hbA : ¬ A b) (hfo : ∀ q, A q → s.heap.size ≤ q) (hP : va_P G cl [(a0, .inr (9, [.ref a1, .ref a2, .ref a3, .int 0, .int 0, .ref a4, .ref a5, .ref a6, .ref a7])), (a8, .inr (10, [.ref a9, .ref a10, .int 0, .int 0, .int 0, .int (-1), .int 0, .int 0, .int 0, .int 0, .long 0, .ref a11, .ref a12, .ref a13, .ref a14, .ref a15, .ref a16, .ref a17, .ref a18, .ref a19, .ref a20, .ref a21, .ref a22, .ref a23, .ref a24, .ref a25, .ref a26, .ref a27, .ref a28, .ref a29, .ref a30, .ref a31, .ref a32, .ref a33, .ref a34, .ref a35, .ref a36, .ref a37, .ref a38, .ref a39, .int 0, .int 0, .ref a40, .ref a41, .int 0, .int 0, .int 0, .int 0, .ref a42, .int 0, .ref a43, .ref a44, .ref a45, .int 0, .int 0, .int 0, .int 0, .int 0, .int 0, .int 0, .int 0, .ref a46, .int 0, .ref a47, .ref a48, .ref a49, .ref a50, .int 0, .int 0]))] H) (hD : va_D A [(a0, .inr (9, [.ref a1, .ref a2, .ref a3, .int 0, .int 0, .ref a4, .ref a5, .ref a6, .ref a7])), (a8, .inr (10, [.ref a9, .ref a10, .int 0, .int 0, .int 0, .int (-1), .int 0, .int 0, .int 0, .int 0, .long 0, .ref a11, .ref a12, .ref a13, .ref a14, .ref a15, .ref a16, .ref a17, .ref a18, .ref a19, .ref a20, .ref a21, .ref a22, .ref a23, .ref a24, .ref a25, .ref a26, .ref a27, .ref a28, .ref a29, .ref a30, .ref a31, .ref a32, .ref a33, .ref a34, .ref a35, .ref a36, .ref a37, .ref a38, .ref a39, .int 0, .int 0, .ref a40, .ref a41, .int 0, .int 0, .int 0, .int 0, .ref a42, .int 0, .ref a43, .ref a44, .ref a45, .int 0, .int 0, .int 0, .int 0, .int 0, .int 0, .int 0, .int 0, .ref a46, .int 0, .ref a47, .ref a48, .ref a49, .ref a50, .int 0, .int 0]))]) (hS : va_S A s.heap H locs) (hl : lv_has ls 4 [(3, .int 0), (2, .ref a8), (1, .ref a0), (0, .ref b)]) : W p l e room_1 s m #[Value.ref b] below meth c H locs 1000 1000000 (lw_Z below #[Value.ref b] s) (F0 m 399 ls []) := by
  obtain ⟨hx, hb, hml, hown, hts⟩ := id hC
  refine lv_aload_n hx hb dL_law_399 rfl (lv_at hl 2 rfl) ?_
  refine lv_aload_n hx hb dL_law_400 rfl (lv_at hl 3 rfl) ?_
  refine lv_iload_n hx hb dL_law_401 rfl (lv_at hl 0 rfl) ?_
  refine lv_iconst (v := 1) hx hb dL_law_402 (by decide) ?_
  refine lv_iadd hx hb dL_law_403 ?_
  refine k_i 1 (by decide +kernel) ?_
  refine va_sld hx hb hX hbl hbA hS (i := 1) (k_in (k := 1) (by decide +kernel) (by decide)) dL_law_404 ?_
  refine k_i (xs 1) (congrArg xs (by decide +kernel)) ?_
  refine lv_aload_n hx hb dL_law_405 rfl (lv_at hl 3 rfl) ?_
  refine lv_iload_n hx hb dL_law_406 rfl (lv_at hl 0 rfl) ?_
  refine lv_iconst (v := 2) hx hb dL_law_407 (by decide) ?_
  refine lv_iadd hx hb dL_law_408 ?_
  refine k_i 2 (by decide +kernel) ?_
  refine va_sld hx hb hX hbl hbA hS (i := 2) (k_in (k := 2) (by decide +kernel) (by decide)) dL_law_409 ?_
  refine k_i (xs 2) (congrArg xs (by decide +kernel)) ?_
  refine lv_if_eq (tgt := 417) hx hb dL_law_410 (by decide) (fun c_1 => ?_) (fun c_1 => ?_)
  · have d_1 : (xs 2).toInt = 0 := (fa_eq _ _).mp c_1
    refine lv_iconst (v := 0) hx hb dL_law_417 (by decide) ?_
    refine k_ci (wr := [(a8, .inr (10, [.ref a9, .ref a10, .int 0, .int 0, .int 0, .int (-1), .int 0, .int 0, .int 0, .int 0, .long 0, .ref a11, .ref a12, .ref a13, .ref a14, .ref a15, .ref a16, .ref a17, .ref a18, .ref a19, .ref a20, .ref a21, .ref a22, .ref a23, .ref a24, .ref a25, .ref a26, .ref a27, .ref a28, .ref a29, .ref a30, .ref a31, .ref a32, .ref a33, .ref a34, .ref a35, .ref a36, .ref a37, .ref a38, .ref a39, .int 0, .int 0, .ref a40, .ref a41, .int 0, .int 0, .int 0, .int 0, .ref a42, .int 0, .ref a43, .ref a44, .ref a45, .int 0, .int 0, .int 0, .int 0, .int 0, .int 0, .int 0, .int 0, .ref a46, .int 0, .ref a47, .ref a48, .ref a49, .ref a50, .int 0, .int 0]))]) (k_rV hC hN hK hP hD (c47_X9_doubt l G cI cJ cB cZ a0 a1 a2 a3 a4 a5 a6 a7 (xs 1)) [0] rfl (by decide) mi_X9_doubt in_X9_doubt se_X9_doubt wm_L_45 9 0 rfl rfl rfl hl.1 rfl rfl (Nat.le_of_ble_eq_true rfl) ⟨(Nat.le_of_ble_eq_true rfl), (Nat.le_of_ble_eq_true rfl)⟩ dL_law_418 ⟨(Nat.le_of_ble_eq_true rfl), (Nat.le_of_ble_eq_true rfl)⟩) hP hD hS hA [0] [1] rfl rfl (by decide) (by decide) (fun r2 u2 H locs hp hP hD hS => ?_)
    have hP : va_P G cl [(a8, .inr (10, [.ref a9, .ref a10, .int 0, .int 0, .int 0, .int (-1), .int 0, .int 0, .int 0, .int 0, .long 0, .ref a11, .ref a12, .ref a13, .ref a14, .ref a15, .ref a16, .ref a17, .ref a18, .ref a19, .ref a20, .ref a21, .ref a22, .ref a23, .ref a24, .ref a25, .ref a26, .ref a27, .ref a28, .ref a29, .ref a30, .ref a31, .ref a32, .ref a33, .ref a34, .ref a35, .ref a36, .ref a37, .ref a38, .ref a39, .int 0, .int 0, .ref a40, .ref a41, .int 0, .int 0, .int 0, .int 0, .ref a42, .int 0, .ref a43, .ref a44, .ref a45, .int 0, .int 0, .int 0, .int 0, .int 0, .int 0, .int 0, .int 0, .ref a46, .int 0, .ref a47, .ref a48, .ref a49, .ref a50, .int 0, .int 0]))] H := hP
    have hD : va_D A [(a8, .inr (10, [.ref a9, .ref a10, .int 0, .int 0, .int 0, .int (-1), .int 0, .int 0, .int 0, .int 0, .long 0, .ref a11, .ref a12, .ref a13, .ref a14, .ref a15, .ref a16, .ref a17, .ref a18, .ref a19, .ref a20, .ref a21, .ref a22, .ref a23, .ref a24, .ref a25, .ref a26, .ref a27, .ref a28, .ref a29, .ref a30, .ref a31, .ref a32, .ref a33, .ref a34, .ref a35, .ref a36, .ref a37, .ref a38, .ref a39, .int 0, .int 0, .ref a40, .ref a41, .int 0, .int 0, .int 0, .int 0, .ref a42, .int 0, .ref a43, .ref a44, .ref a45, .int 0, .int 0, .int 0, .int 0, .int 0, .int 0, .int 0, .int 0, .ref a46, .int 0, .ref a47, .ref a48, .ref a49, .ref a50, .int 0, .int 0]))] := hD
    subst hp
    refine lv_aload_n hx hb dL_law_421 rfl (lv_at hl 1 rfl) ?_
    refine lv_aload_n hx hb dL_law_422 rfl (lv_at hl 3 rfl) ?_
    refine lv_iload_n hx hb dL_law_423 rfl (lv_at hl 0 rfl) ?_
    refine lv_iconst (v := 1) hx hb dL_law_424 (by decide) ?_
    refine lv_iadd hx hb dL_law_425 ?_
    refine k_i 1 (by decide +kernel) ?_
    refine va_sld hx hb hX hbl hbA hS (i := 1) (k_in (k := 1) (by decide +kernel) (by decide)) dL_law_426 ?_
    refine k_i (xs 1) (congrArg xs (by decide +kernel)) ?_
    refine lv_aload_n hx hb dL_law_427 rfl (lv_at hl 3 rfl) ?_
    refine lv_iload_n hx hb dL_law_428 rfl (lv_at hl 0 rfl) ?_
    refine lv_iconst (v := 2) hx hb dL_law_429 (by decide) ?_
    refine lv_iadd hx hb dL_law_430 ?_
    refine k_i 2 (by decide +kernel) ?_
    refine va_sld hx hb hX hbl hbA hS (i := 2) (k_in (k := 2) (by decide +kernel) (by decide)) dL_law_431 ?_
    refine k_i (xs 2) (congrArg xs (by decide +kernel)) ?_
    refine lv_if_eq (tgt := 439) hx hb dL_law_432 (by decide) (fun c_3 => ?_) (fun c_3 => by have d_3 : (xs 2).toInt ≠ 0 := fa_ne c_3; omega)
    have d_3 : (xs 2).toInt = 0 := (fa_eq _ _).mp c_3
    refine lv_iconst (v := 0) hx hb dL_law_439 (by decide) ?_
    refine k_ci (wr := []) (k_rV hC hN hK hP hD (c145_X10_doubt l G cI cJ cB cZ a8 a9 a10 a11 a12 a13 a14 a15 a16 a17 a18 a19 a20 a21 a22 a23 a24 a25 a26 a27 a28 a29 a30 a31 a32 a33 a34 a35 a36 a37 a38 a39 a40 a41 a42 a43 a44 a45 a46 a47 a48 a49 a50 (xs 1)) [0] rfl (by decide) mi_X10_doubt in_X10_doubt se_X10_doubt wm_L_49 10 0 rfl rfl rfl hl.1 rfl rfl (Nat.le_of_ble_eq_true rfl) ⟨(Nat.le_of_ble_eq_true rfl), (Nat.le_of_ble_eq_true rfl)⟩ dL_law_440 ⟨(Nat.le_of_ble_eq_true rfl), (Nat.le_of_ble_eq_true rfl)⟩) hP hD hS hA [0] [] rfl rfl (by decide) (by decide) (fun r4 u4 H locs hp hP hD hS => ?_)
    have hP : va_P G cl [] H := hP
    have hD : va_D A [] := hD
    subst hp
    refine lv_icmp_eq (tgt := 1428) hx hb dL_law_443 (by decide) (fun _ => ?_) (fun c_ => absurd (by decide +kernel) c_)
    exact law_tail hC hr hlk hX hbl hbA hfo hS hl (Nat.le_of_ble_eq_true rfl) (Nat.le_of_ble_eq_true rfl)
  · have d_1 : (xs 2).toInt ≠ 0 := fa_ne c_1
    refine lv_iconst (v := 1) hx hb dL_law_413 (by decide) ?_
    refine lv_goto (tgt := 418) hx hb dL_law_414 (by decide) ?_
    refine k_ci (wr := [(a8, .inr (10, [.ref a9, .ref a10, .int 0, .int 0, .int 0, .int (-1), .int 0, .int 0, .int 0, .int 0, .long 0, .ref a11, .ref a12, .ref a13, .ref a14, .ref a15, .ref a16, .ref a17, .ref a18, .ref a19, .ref a20, .ref a21, .ref a22, .ref a23, .ref a24, .ref a25, .ref a26, .ref a27, .ref a28, .ref a29, .ref a30, .ref a31, .ref a32, .ref a33, .ref a34, .ref a35, .ref a36, .ref a37, .ref a38, .ref a39, .int 0, .int 0, .ref a40, .ref a41, .int 0, .int 0, .int 0, .int 0, .ref a42, .int 0, .ref a43, .ref a44, .ref a45, .int 0, .int 0, .int 0, .int 0, .int 0, .int 0, .int 0, .int 0, .ref a46, .int 0, .ref a47, .ref a48, .ref a49, .ref a50, .int 0, .int 0]))]) (k_rV hC hN hK hP hD (c48_X9_doubt l G cI cJ cB cZ a0 a1 a2 a3 a4 a5 a6 a7 (xs 1)) [0] rfl (by decide) mi_X9_doubt in_X9_doubt se_X9_doubt wm_L_45 9 0 rfl rfl rfl hl.1 rfl rfl (Nat.le_of_ble_eq_true rfl) ⟨(Nat.le_of_ble_eq_true rfl), (Nat.le_of_ble_eq_true rfl)⟩ dL_law_418 ⟨(Nat.le_of_ble_eq_true rfl), (Nat.le_of_ble_eq_true rfl)⟩) hP hD hS hA [0] [1] rfl rfl (by decide) (by decide) (fun r5 u5 H locs hp hP hD hS => ?_)
    have hP : va_P G cl [(a8, .inr (10, [.ref a9, .ref a10, .int 0, .int 0, .int 0, .int (-1), .int 0, .int 0, .int 0, .int 0, .long 0, .ref a11, .ref a12, .ref a13, .ref a14, .ref a15, .ref a16, .ref a17, .ref a18, .ref a19, .ref a20, .ref a21, .ref a22, .ref a23, .ref a24, .ref a25, .ref a26, .ref a27, .ref a28, .ref a29, .ref a30, .ref a31, .ref a32, .ref a33, .ref a34, .ref a35, .ref a36, .ref a37, .ref a38, .ref a39, .int 0, .int 0, .ref a40, .ref a41, .int 0, .int 0, .int 0, .int 0, .ref a42, .int 0, .ref a43, .ref a44, .ref a45, .int 0, .int 0, .int 0, .int 0, .int 0, .int 0, .int 0, .int 0, .ref a46, .int 0, .ref a47, .ref a48, .ref a49, .ref a50, .int 0, .int 0]))] H := hP
    have hD : va_D A [(a8, .inr (10, [.ref a9, .ref a10, .int 0, .int 0, .int 0, .int (-1), .int 0, .int 0, .int 0, .int 0, .long 0, .ref a11, .ref a12, .ref a13, .ref a14, .ref a15, .ref a16, .ref a17, .ref a18, .ref a19, .ref a20, .ref a21, .ref a22, .ref a23, .ref a24, .ref a25, .ref a26, .ref a27, .ref a28, .ref a29, .ref a30, .ref a31, .ref a32, .ref a33, .ref a34, .ref a35, .ref a36, .ref a37, .ref a38, .ref a39, .int 0, .int 0, .ref a40, .ref a41, .int 0, .int 0, .int 0, .int 0, .ref a42, .int 0, .ref a43, .ref a44, .ref a45, .int 0, .int 0, .int 0, .int 0, .int 0, .int 0, .int 0, .int 0, .ref a46, .int 0, .ref a47, .ref a48, .ref a49, .ref a50, .int 0, .int 0]))] := hD
    have hp5 := hp
    refine lv_aload_n hx hb dL_law_421 rfl (lv_at hl 1 rfl) ?_
    refine lv_aload_n hx hb dL_law_422 rfl (lv_at hl 3 rfl) ?_
    refine lv_iload_n hx hb dL_law_423 rfl (lv_at hl 0 rfl) ?_
    refine lv_iconst (v := 1) hx hb dL_law_424 (by decide) ?_
    refine lv_iadd hx hb dL_law_425 ?_
    refine k_i 1 (by decide +kernel) ?_
    refine va_sld hx hb hX hbl hbA hS (i := 1) (k_in (k := 1) (by decide +kernel) (by decide)) dL_law_426 ?_
    refine k_i (xs 1) (congrArg xs (by decide +kernel)) ?_
    refine lv_aload_n hx hb dL_law_427 rfl (lv_at hl 3 rfl) ?_
    refine lv_iload_n hx hb dL_law_428 rfl (lv_at hl 0 rfl) ?_
    refine lv_iconst (v := 2) hx hb dL_law_429 (by decide) ?_
    refine lv_iadd hx hb dL_law_430 ?_
    refine k_i 2 (by decide +kernel) ?_
    refine va_sld hx hb hX hbl hbA hS (i := 2) (k_in (k := 2) (by decide +kernel) (by decide)) dL_law_431 ?_
    refine k_i (xs 2) (congrArg xs (by decide +kernel)) ?_
    refine lv_if_eq (tgt := 439) hx hb dL_law_432 (by decide) (fun c_6 => by have d_6 : (xs 2).toInt = 0 := (fa_eq _ _).mp c_6; omega) (fun c_6 => ?_)
    have d_6 : (xs 2).toInt ≠ 0 := fa_ne c_6
    refine lv_iconst (v := 1) hx hb dL_law_435 (by decide) ?_
    refine lv_goto (tgt := 440) hx hb dL_law_436 (by decide) ?_
    refine k_ci (wr := []) (k_rV hC hN hK hP hD (c146_X10_doubt l G cI cJ cB cZ a8 a9 a10 a11 a12 a13 a14 a15 a16 a17 a18 a19 a20 a21 a22 a23 a24 a25 a26 a27 a28 a29 a30 a31 a32 a33 a34 a35 a36 a37 a38 a39 a40 a41 a42 a43 a44 a45 a46 a47 a48 a49 a50 (xs 1)) [0] rfl (by decide) mi_X10_doubt in_X10_doubt se_X10_doubt wm_L_49 10 0 rfl rfl rfl hl.1 rfl rfl (Nat.le_of_ble_eq_true rfl) ⟨(Nat.le_of_ble_eq_true rfl), (Nat.le_of_ble_eq_true rfl)⟩ dL_law_440 ⟨(Nat.le_of_ble_eq_true rfl), (Nat.le_of_ble_eq_true rfl)⟩) hP hD hS hA [0] [] rfl rfl (by decide) (by decide) (fun r7 u7 H locs hp hP hD hS => ?_)
    have hP : va_P G cl [] H := hP
    have hD : va_D A [] := hD
    have hp7 := hp
    refine lv_icmp_eq (tgt := 1428) hx hb dL_law_443 (by decide) (fun _ => ?_) (fun c_ => absurd (hp5.trans hp7.symm) c_)
    exact law_tail hC hr hlk hX hbl hbA hfo hS hl (Nat.le_of_ble_eq_true rfl) (Nat.le_of_ble_eq_true rfl)
set_option maxRecDepth 100000 in
theorem wm_L_50 : Cond.methodLink RL 50 yX9_fits ∈ gw := gm (List.mem_of_getElem? (i := 782) (by decide +kernel)) rfl
set_option maxRecDepth 100000 in
theorem mi_X9_fits : MI yX9_fits cX9_fits 2 (some .int) 1 := ⟨gm (List.mem_of_getElem? (i := 785) rfl) rfl, gm (List.mem_of_getElem? (i := 112) (by decide +kernel)) rfl, by decide, by decide, by decide +kernel⟩
set_option maxRecDepth 100000 in
theorem in_X9_fits : Cond.instanceMethod yX9_fits ∈ gw := gm (List.mem_of_getElem? (i := 783) (by decide +kernel)) rfl
set_option maxRecDepth 100000 in
theorem se_X9_fits : Cond.selects yX9_fits.cls yX9_fits yX9_fits ∈ gw := gm (List.mem_of_getElem? (i := 784) (by decide +kernel)) rfl
set_option maxRecDepth 100000 in
theorem wm_L_53 : Cond.methodLink RL 53 yX10_fits ∈ gw := gm (List.mem_of_getElem? (i := 1611) (by decide +kernel)) rfl
set_option maxRecDepth 100000 in
theorem mi_X10_fits : MI yX10_fits cX10_fits 2 (some .int) 1 := ⟨gm (List.mem_of_getElem? (i := 1614) rfl) rfl, gm (List.mem_of_getElem? (i := 124) (by decide +kernel)) rfl, by decide, by decide, by decide +kernel⟩
set_option maxRecDepth 100000 in
theorem in_X10_fits : Cond.instanceMethod yX10_fits ∈ gw := gm (List.mem_of_getElem? (i := 1612) (by decide +kernel)) rfl
set_option maxRecDepth 100000 in
theorem se_X10_fits : Cond.selects yX10_fits.cls yX10_fits yX10_fits ∈ gw := gm (List.mem_of_getElem? (i := 1613) (by decide +kernel)) rfl
set_option maxHeartbeats 4000000 in
set_option maxRecDepth 100000 in
theorem law_fits {p : Program} {l : Launch} {e : Env} {s : State} {m : MethodId} {below : List Frame} {meth : Method} {c : Code} {b : Nat} {xs : Nat → Int32} {A : Nat → Prop} {H : Heap} {locs : List Loc} {ls : Array Slot} {G : va_G} {cI cJ cB cZ : ClassId} (a0 a1 a2 a3 a4 a5 a6 a7 a8 a9 a10 a11 a12 a13 a14 a15 a16 a17 a18 a19 a20 a21 a22 a23 a24 a25 a26 a27 a28 a29 a30 a31 a32 a33 a34 a35 a36 a37 a38 a39 a40 a41 a42 a43 a44 a45 a46 a47 a48 a49 a50 a51 a52 a53 a54 a55 a56 a57 a58 a59 a60 a61 a62 a63 a64 a65 a66 a67 a68 a69 a70 a71 a72 a73 a74 a75 a76 a77 a78 a79 a80 a81 a82 a83 a84 a85 a86 a87 a88 a89 : Nat) (hC : CallFix p m c code 4 s #[Value.ref b] gw R_law) (hr : meth.sig.returnType = ret) (hlk : meth.locks = false) (hN : NW s) (hK : va_K G cl (TY cI cJ cB cZ) s) (hX : va_X b 6 xs s s.heap) (hbl : b < s.heap.size) (hA : ∀ q, s.heap.size ≤ q → A q) (hbA : ¬ A b) (hfo : ∀ q, A q → s.heap.size ≤ q) (hP : va_P G cl [(a0, .inr (9, [.ref a1, .ref a2, .ref a3, .int 0, .int 0, .ref a4, .ref a5, .ref a6, .ref a7])), (a1, .inr (7, [.int 100, .int 100, .int 0, .ref a8, .ref a9, .int 0, .ref a10, .ref a11, .ref a12, .ref a13, .ref a14, .ref a15, .ref a16, .ref a17, .ref a18])), (a9, .inl (cI, 2, .inl (upd (upd (fun _ => 0) 0 16) 1 16))), (a8, .inl (cI, 2, .inl (upd (upd (fun _ => 0) 0 16) 1 16))), (a17, .inr (8, [.ref a19, .ref a20, .ref a21, .ref a22, .ref a23, .ref a24, .ref a25, .int 0])), (a3, .inr (8, [.ref a26, .ref a27, .ref a28, .ref a29, .ref a30, .ref a31, .ref a32, .int 0])), (a5, .inr (0, [.ref a33, .int 0, .int 0, .long 0, .int 0, .int 0, .long 0])), (a4, .inr (4, [.ref a34, .ref a5, .ref a35, .ref a36, .ref a37, .ref a38, .ref a39, .int 100, .int 0, .int 0, .int (-1)])), (a35, .inr (8, [.ref a40, .ref a41, .ref a42, .ref a43, .ref a44, .ref a45, .ref a46, .int 0])), (a36, .inl (cI, 7, .inl (fun _ => 0))), (a33, .inl (cJ, 256, .inr (.inl (fun _ => 0)))), (a47, .inr (10, [.ref a48, .ref a49, .int 0, .int 0, .int 0, .int (-1), .int 0, .int 0, .int 0, .int 0, .long 0, .ref a50, .ref a51, .ref a52, .ref a53, .ref a54, .ref a55, .ref a56, .ref a57, .ref a58, .ref a59, .ref a60, .ref a61, .ref a62, .ref a63, .ref a64, .ref a65, .ref a66, .ref a67, .ref a68, .ref a69, .ref a70, .ref a71, .ref a72, .ref a73, .ref a74, .ref a75, .ref a76, .ref a77, .ref a78, .int 0, .int 0, .ref a79, .ref a80, .int 0, .int 0, .int 0, .int 0, .ref a81, .int 0, .ref a82, .ref a83, .ref a84, .int 0, .int 0, .int 0, .int 0, .int 0, .int 0, .int 0, .int 0, .ref a85, .int 0, .ref a86, .ref a87, .ref a88, .ref a89, .int 0, .int 0])), (a55, .inl (cI, 2, .inl (upd (fun _ => 0) 0 100))), (a54, .inl (cI, 2, .inl (upd (fun _ => 0) 0 100))), (a58, .inl (cI, 4, .inl (upd (upd (fun _ => 0) 0 16) 1 16))), (a57, .inl (cI, 4, .inl (upd (upd (fun _ => 0) 0 16) 1 16))), (a59, .inl (cI, 2, .inl (fun _ => 0))), (a66, .inl (cI, 2, .inl (fun _ => 0))), (a84, .inl (cI, 2, .inl (fun _ => 0))), (a82, .inl (cI, 300000, .inl (fun _ => 0)))] H) (hD : va_D A [(a0, .inr (9, [.ref a1, .ref a2, .ref a3, .int 0, .int 0, .ref a4, .ref a5, .ref a6, .ref a7])), (a1, .inr (7, [.int 100, .int 100, .int 0, .ref a8, .ref a9, .int 0, .ref a10, .ref a11, .ref a12, .ref a13, .ref a14, .ref a15, .ref a16, .ref a17, .ref a18])), (a9, .inl (cI, 2, .inl (upd (upd (fun _ => 0) 0 16) 1 16))), (a8, .inl (cI, 2, .inl (upd (upd (fun _ => 0) 0 16) 1 16))), (a17, .inr (8, [.ref a19, .ref a20, .ref a21, .ref a22, .ref a23, .ref a24, .ref a25, .int 0])), (a3, .inr (8, [.ref a26, .ref a27, .ref a28, .ref a29, .ref a30, .ref a31, .ref a32, .int 0])), (a5, .inr (0, [.ref a33, .int 0, .int 0, .long 0, .int 0, .int 0, .long 0])), (a4, .inr (4, [.ref a34, .ref a5, .ref a35, .ref a36, .ref a37, .ref a38, .ref a39, .int 100, .int 0, .int 0, .int (-1)])), (a35, .inr (8, [.ref a40, .ref a41, .ref a42, .ref a43, .ref a44, .ref a45, .ref a46, .int 0])), (a36, .inl (cI, 7, .inl (fun _ => 0))), (a33, .inl (cJ, 256, .inr (.inl (fun _ => 0)))), (a47, .inr (10, [.ref a48, .ref a49, .int 0, .int 0, .int 0, .int (-1), .int 0, .int 0, .int 0, .int 0, .long 0, .ref a50, .ref a51, .ref a52, .ref a53, .ref a54, .ref a55, .ref a56, .ref a57, .ref a58, .ref a59, .ref a60, .ref a61, .ref a62, .ref a63, .ref a64, .ref a65, .ref a66, .ref a67, .ref a68, .ref a69, .ref a70, .ref a71, .ref a72, .ref a73, .ref a74, .ref a75, .ref a76, .ref a77, .ref a78, .int 0, .int 0, .ref a79, .ref a80, .int 0, .int 0, .int 0, .int 0, .ref a81, .int 0, .ref a82, .ref a83, .ref a84, .int 0, .int 0, .int 0, .int 0, .int 0, .int 0, .int 0, .int 0, .ref a85, .int 0, .ref a86, .ref a87, .ref a88, .ref a89, .int 0, .int 0])), (a55, .inl (cI, 2, .inl (upd (fun _ => 0) 0 100))), (a54, .inl (cI, 2, .inl (upd (fun _ => 0) 0 100))), (a58, .inl (cI, 4, .inl (upd (upd (fun _ => 0) 0 16) 1 16))), (a57, .inl (cI, 4, .inl (upd (upd (fun _ => 0) 0 16) 1 16))), (a59, .inl (cI, 2, .inl (fun _ => 0))), (a66, .inl (cI, 2, .inl (fun _ => 0))), (a84, .inl (cI, 2, .inl (fun _ => 0))), (a82, .inl (cI, 300000, .inl (fun _ => 0)))]) (hS : va_S A s.heap H locs) (hl : lv_has ls 4 [(3, .int 0), (2, .ref a47), (1, .ref a0), (0, .ref b)]) : W p l e room_1 s m #[Value.ref b] below meth c H locs 1000 1000000 (lw_Z below #[Value.ref b] s) (F0 m 448 ls []) := by
  obtain ⟨hx, hb, hml, hown, hts⟩ := id hC
  refine lv_aload_n hx hb dL_law_448 rfl (lv_at hl 2 rfl) ?_
  refine lv_aload_n hx hb dL_law_449 rfl (lv_at hl 3 rfl) ?_
  refine lv_iload_n hx hb dL_law_450 rfl (lv_at hl 0 rfl) ?_
  refine lv_iconst (v := 1) hx hb dL_law_451 (by decide) ?_
  refine lv_iadd hx hb dL_law_452 ?_
  refine k_i 1 (by decide +kernel) ?_
  refine va_sld hx hb hX hbl hbA hS (i := 1) (k_in (k := 1) (by decide +kernel) (by decide)) dL_law_453 ?_
  refine k_i (xs 1) (congrArg xs (by decide +kernel)) ?_
  refine k_ci (wr := [(a47, .inr (10, [.ref a48, .ref a49, .int 0, .int 0, .int 0, .int (-1), .int 0, .int 0, .int 0, .int 0, .long 0, .ref a50, .ref a51, .ref a52, .ref a53, .ref a54, .ref a55, .ref a56, .ref a57, .ref a58, .ref a59, .ref a60, .ref a61, .ref a62, .ref a63, .ref a64, .ref a65, .ref a66, .ref a67, .ref a68, .ref a69, .ref a70, .ref a71, .ref a72, .ref a73, .ref a74, .ref a75, .ref a76, .ref a77, .ref a78, .int 0, .int 0, .ref a79, .ref a80, .int 0, .int 0, .int 0, .int 0, .ref a81, .int 0, .ref a82, .ref a83, .ref a84, .int 0, .int 0, .int 0, .int 0, .int 0, .int 0, .int 0, .int 0, .ref a85, .int 0, .ref a86, .ref a87, .ref a88, .ref a89, .int 0, .int 0])), (a55, .inl (cI, 2, .inl (upd (fun _ => 0) 0 100))), (a54, .inl (cI, 2, .inl (upd (fun _ => 0) 0 100))), (a58, .inl (cI, 4, .inl (upd (upd (fun _ => 0) 0 16) 1 16))), (a57, .inl (cI, 4, .inl (upd (upd (fun _ => 0) 0 16) 1 16))), (a59, .inl (cI, 2, .inl (fun _ => 0))), (a66, .inl (cI, 2, .inl (fun _ => 0))), (a84, .inl (cI, 2, .inl (fun _ => 0))), (a82, .inl (cI, 300000, .inl (fun _ => 0)))]) (k_rV hC hN hK hP hD (c66_X9_fits l G cI cJ cB cZ a0 a1 a2 a3 a4 a5 a6 a7 a8 a9 a10 a11 a12 a13 a14 a15 a16 a17 a18 a19 a20 a21 a22 a23 a24 a25 a26 a27 a28 a29 a30 a31 a32 a33 a34 a35 a36 a37 a38 a39 a40 a41 a42 a43 a44 a45 a46 (xs 1)) [0, 1, 2, 3, 4, 5, 6, 7, 8, 9, 10] rfl (by decide) mi_X9_fits in_X9_fits se_X9_fits wm_L_50 9 0 rfl rfl rfl hl.1 rfl rfl (Nat.le_of_ble_eq_true rfl) ⟨(Nat.le_of_ble_eq_true rfl), (Nat.le_of_ble_eq_true rfl)⟩ dL_law_454 ⟨(Nat.le_of_ble_eq_true rfl), (Nat.le_of_ble_eq_true rfl)⟩) hP hD hS hA [0, 1, 2, 3, 4, 5, 6, 7, 8, 9, 10] [11, 12, 13, 14, 15, 16, 17, 18, 19] rfl rfl (by decide) (by decide) (fun r1 u1 H locs hp hP hD hS => ?_)
  have hP : va_P G cl [(a47, .inr (10, [.ref a48, .ref a49, .int 0, .int 0, .int 0, .int (-1), .int 0, .int 0, .int 0, .int 0, .long 0, .ref a50, .ref a51, .ref a52, .ref a53, .ref a54, .ref a55, .ref a56, .ref a57, .ref a58, .ref a59, .ref a60, .ref a61, .ref a62, .ref a63, .ref a64, .ref a65, .ref a66, .ref a67, .ref a68, .ref a69, .ref a70, .ref a71, .ref a72, .ref a73, .ref a74, .ref a75, .ref a76, .ref a77, .ref a78, .int 0, .int 0, .ref a79, .ref a80, .int 0, .int 0, .int 0, .int 0, .ref a81, .int 0, .ref a82, .ref a83, .ref a84, .int 0, .int 0, .int 0, .int 0, .int 0, .int 0, .int 0, .int 0, .ref a85, .int 0, .ref a86, .ref a87, .ref a88, .ref a89, .int 0, .int 0])), (a55, .inl (cI, 2, .inl (upd (fun _ => 0) 0 100))), (a54, .inl (cI, 2, .inl (upd (fun _ => 0) 0 100))), (a58, .inl (cI, 4, .inl (upd (upd (fun _ => 0) 0 16) 1 16))), (a57, .inl (cI, 4, .inl (upd (upd (fun _ => 0) 0 16) 1 16))), (a59, .inl (cI, 2, .inl (fun _ => 0))), (a66, .inl (cI, 2, .inl (fun _ => 0))), (a84, .inl (cI, 2, .inl (fun _ => 0))), (a82, .inl (cI, 300000, .inl (fun _ => 0)))] H := hP
  have hD : va_D A [(a47, .inr (10, [.ref a48, .ref a49, .int 0, .int 0, .int 0, .int (-1), .int 0, .int 0, .int 0, .int 0, .long 0, .ref a50, .ref a51, .ref a52, .ref a53, .ref a54, .ref a55, .ref a56, .ref a57, .ref a58, .ref a59, .ref a60, .ref a61, .ref a62, .ref a63, .ref a64, .ref a65, .ref a66, .ref a67, .ref a68, .ref a69, .ref a70, .ref a71, .ref a72, .ref a73, .ref a74, .ref a75, .ref a76, .ref a77, .ref a78, .int 0, .int 0, .ref a79, .ref a80, .int 0, .int 0, .int 0, .int 0, .ref a81, .int 0, .ref a82, .ref a83, .ref a84, .int 0, .int 0, .int 0, .int 0, .int 0, .int 0, .int 0, .int 0, .ref a85, .int 0, .ref a86, .ref a87, .ref a88, .ref a89, .int 0, .int 0])), (a55, .inl (cI, 2, .inl (upd (fun _ => 0) 0 100))), (a54, .inl (cI, 2, .inl (upd (fun _ => 0) 0 100))), (a58, .inl (cI, 4, .inl (upd (upd (fun _ => 0) 0 16) 1 16))), (a57, .inl (cI, 4, .inl (upd (upd (fun _ => 0) 0 16) 1 16))), (a59, .inl (cI, 2, .inl (fun _ => 0))), (a66, .inl (cI, 2, .inl (fun _ => 0))), (a84, .inl (cI, 2, .inl (fun _ => 0))), (a82, .inl (cI, 300000, .inl (fun _ => 0)))] := hD
  subst hp
  refine lv_aload_n hx hb dL_law_457 rfl (lv_at hl 1 rfl) ?_
  refine lv_aload_n hx hb dL_law_458 rfl (lv_at hl 3 rfl) ?_
  refine lv_iload_n hx hb dL_law_459 rfl (lv_at hl 0 rfl) ?_
  refine lv_iconst (v := 1) hx hb dL_law_460 (by decide) ?_
  refine lv_iadd hx hb dL_law_461 ?_
  refine k_i 1 (by decide +kernel) ?_
  refine va_sld hx hb hX hbl hbA hS (i := 1) (k_in (k := 1) (by decide +kernel) (by decide)) dL_law_462 ?_
  refine k_i (xs 1) (congrArg xs (by decide +kernel)) ?_
  refine k_ci (wr := []) (k_rV hC hN hK hP hD (c159_X10_fits l G cI cJ cB cZ a47 a48 a49 a50 a51 a52 a53 a54 a55 a56 a57 a58 a59 a60 a61 a62 a63 a64 a65 a66 a67 a68 a69 a70 a71 a72 a73 a74 a75 a76 a77 a78 a79 a80 a81 a82 a83 a84 a85 a86 a87 a88 a89 (xs 1)) [0, 1, 2, 3, 4, 5, 6, 7, 8] rfl (by decide) mi_X10_fits in_X10_fits se_X10_fits wm_L_53 10 0 rfl rfl rfl hl.1 rfl rfl (Nat.le_of_ble_eq_true rfl) ⟨(Nat.le_of_ble_eq_true rfl), (Nat.le_of_ble_eq_true rfl)⟩ dL_law_463 ⟨(Nat.le_of_ble_eq_true rfl), (Nat.le_of_ble_eq_true rfl)⟩) hP hD hS hA [0, 1, 2, 3, 4, 5, 6, 7, 8] [] rfl rfl (by decide) (by decide) (fun r2 u2 H locs hp hP hD hS => ?_)
  have hP : va_P G cl [] H := hP
  have hD : va_D A [] := hD
  subst hp
  refine lv_icmp_eq (tgt := 1428) hx hb dL_law_466 (by decide) (fun _ => ?_) (fun c_ => absurd (by decide +kernel) c_)
  exact law_tail hC hr hlk hX hbl hbA hfo hS hl (Nat.le_of_ble_eq_true rfl) (Nat.le_of_ble_eq_true rfl)
set_option maxRecDepth 100000 in
theorem wm_L_54 : Cond.methodLink RL 54 yX9_fit ∈ gw := gm (List.mem_of_getElem? (i := 926) (by decide +kernel)) rfl
set_option maxRecDepth 100000 in
theorem mi_X9_fit : MI yX9_fit cX9_fit 4 (some .int) 3 := ⟨gm (List.mem_of_getElem? (i := 929) rfl) rfl, gm (List.mem_of_getElem? (i := 112) (by decide +kernel)) rfl, by decide, by decide, by decide +kernel⟩
set_option maxRecDepth 100000 in
theorem in_X9_fit : Cond.instanceMethod yX9_fit ∈ gw := gm (List.mem_of_getElem? (i := 927) (by decide +kernel)) rfl
set_option maxRecDepth 100000 in
theorem se_X9_fit : Cond.selects yX9_fit.cls yX9_fit yX9_fit ∈ gw := gm (List.mem_of_getElem? (i := 928) (by decide +kernel)) rfl
set_option maxRecDepth 100000 in
theorem wm_L_58 : Cond.methodLink RL 58 yX10_fit ∈ gw := gm (List.mem_of_getElem? (i := 1671) (by decide +kernel)) rfl
set_option maxRecDepth 100000 in
theorem mi_X10_fit : MI yX10_fit cX10_fit 4 (some .int) 3 := ⟨gm (List.mem_of_getElem? (i := 1674) rfl) rfl, gm (List.mem_of_getElem? (i := 124) (by decide +kernel)) rfl, by decide, by decide, by decide +kernel⟩
set_option maxRecDepth 100000 in
theorem in_X10_fit : Cond.instanceMethod yX10_fit ∈ gw := gm (List.mem_of_getElem? (i := 1672) (by decide +kernel)) rfl
set_option maxRecDepth 100000 in
theorem se_X10_fit : Cond.selects yX10_fit.cls yX10_fit yX10_fit ∈ gw := gm (List.mem_of_getElem? (i := 1673) (by decide +kernel)) rfl
set_option maxHeartbeats 4000000 in
set_option maxRecDepth 100000 in
theorem law_fit {p : Program} {l : Launch} {e : Env} {s : State} {m : MethodId} {below : List Frame} {meth : Method} {c : Code} {b : Nat} {xs : Nat → Int32} {A : Nat → Prop} {H : Heap} {locs : List Loc} {ls : Array Slot} {G : va_G} {cI cJ cB cZ : ClassId} (a0 a1 a2 a3 a4 a5 a6 a7 a8 a9 a10 a11 a12 a13 a14 a15 a16 a17 a18 a19 a20 a21 a22 a23 a24 a25 a26 a27 a28 a29 a30 a31 a32 a33 a34 a35 a36 a37 a38 a39 a40 a41 a42 a43 a44 a45 a46 a47 a48 a49 a50 a51 a52 a53 a54 a55 a56 a57 a58 a59 a60 a61 a62 a63 a64 a65 a66 a67 a68 a69 a70 a71 a72 a73 a74 a75 a76 a77 a78 a79 a80 a81 a82 a83 a84 a85 a86 a87 a88 a89 : Nat) (hC : CallFix p m c code 4 s #[Value.ref b] gw R_law) (hr : meth.sig.returnType = ret) (hlk : meth.locks = false) (hN : NW s) (hK : va_K G cl (TY cI cJ cB cZ) s) (hX : va_X b 6 xs s s.heap) (hbl : b < s.heap.size) (hA : ∀ q, s.heap.size ≤ q → A q) (hbA : ¬ A b) (hfo : ∀ q, A q → s.heap.size ≤ q) (hP : va_P G cl [(a0, .inr (9, [.ref a1, .ref a2, .ref a3, .int 0, .int 0, .ref a4, .ref a5, .ref a6, .ref a7])), (a1, .inr (7, [.int 100, .int 100, .int 0, .ref a8, .ref a9, .int 0, .ref a10, .ref a11, .ref a12, .ref a13, .ref a14, .ref a15, .ref a16, .ref a17, .ref a18])), (a9, .inl (cI, 2, .inl (upd (upd (fun _ => 0) 0 16) 1 16))), (a8, .inl (cI, 2, .inl (upd (upd (fun _ => 0) 0 16) 1 16))), (a17, .inr (8, [.ref a19, .ref a20, .ref a21, .ref a22, .ref a23, .ref a24, .ref a25, .int 0])), (a3, .inr (8, [.ref a26, .ref a27, .ref a28, .ref a29, .ref a30, .ref a31, .ref a32, .int 0])), (a5, .inr (0, [.ref a33, .int 0, .int 0, .long 0, .int 0, .int 0, .long 0])), (a4, .inr (4, [.ref a34, .ref a5, .ref a35, .ref a36, .ref a37, .ref a38, .ref a39, .int 100, .int 0, .int 0, .int (-1)])), (a35, .inr (8, [.ref a40, .ref a41, .ref a42, .ref a43, .ref a44, .ref a45, .ref a46, .int 0])), (a36, .inl (cI, 7, .inl (fun _ => 0))), (a33, .inl (cJ, 256, .inr (.inl (fun _ => 0)))), (a47, .inr (10, [.ref a48, .ref a49, .int 0, .int 0, .int 0, .int (-1), .int 0, .int 0, .int 0, .int 0, .long 0, .ref a50, .ref a51, .ref a52, .ref a53, .ref a54, .ref a55, .ref a56, .ref a57, .ref a58, .ref a59, .ref a60, .ref a61, .ref a62, .ref a63, .ref a64, .ref a65, .ref a66, .ref a67, .ref a68, .ref a69, .ref a70, .ref a71, .ref a72, .ref a73, .ref a74, .ref a75, .ref a76, .ref a77, .ref a78, .int 0, .int 0, .ref a79, .ref a80, .int 0, .int 0, .int 0, .int 0, .ref a81, .int 0, .ref a82, .ref a83, .ref a84, .int 0, .int 0, .int 0, .int 0, .int 0, .int 0, .int 0, .int 0, .ref a85, .int 0, .ref a86, .ref a87, .ref a88, .ref a89, .int 0, .int 0])), (a59, .inl (cI, 2, .inl (fun _ => 0))), (a55, .inl (cI, 2, .inl (upd (fun _ => 0) 0 100))), (a54, .inl (cI, 2, .inl (upd (fun _ => 0) 0 100))), (a58, .inl (cI, 4, .inl (upd (upd (fun _ => 0) 0 16) 1 16))), (a57, .inl (cI, 4, .inl (upd (upd (fun _ => 0) 0 16) 1 16))), (a66, .inl (cI, 2, .inl (fun _ => 0))), (a84, .inl (cI, 2, .inl (fun _ => 0))), (a82, .inl (cI, 300000, .inl (fun _ => 0)))] H) (hD : va_D A [(a0, .inr (9, [.ref a1, .ref a2, .ref a3, .int 0, .int 0, .ref a4, .ref a5, .ref a6, .ref a7])), (a1, .inr (7, [.int 100, .int 100, .int 0, .ref a8, .ref a9, .int 0, .ref a10, .ref a11, .ref a12, .ref a13, .ref a14, .ref a15, .ref a16, .ref a17, .ref a18])), (a9, .inl (cI, 2, .inl (upd (upd (fun _ => 0) 0 16) 1 16))), (a8, .inl (cI, 2, .inl (upd (upd (fun _ => 0) 0 16) 1 16))), (a17, .inr (8, [.ref a19, .ref a20, .ref a21, .ref a22, .ref a23, .ref a24, .ref a25, .int 0])), (a3, .inr (8, [.ref a26, .ref a27, .ref a28, .ref a29, .ref a30, .ref a31, .ref a32, .int 0])), (a5, .inr (0, [.ref a33, .int 0, .int 0, .long 0, .int 0, .int 0, .long 0])), (a4, .inr (4, [.ref a34, .ref a5, .ref a35, .ref a36, .ref a37, .ref a38, .ref a39, .int 100, .int 0, .int 0, .int (-1)])), (a35, .inr (8, [.ref a40, .ref a41, .ref a42, .ref a43, .ref a44, .ref a45, .ref a46, .int 0])), (a36, .inl (cI, 7, .inl (fun _ => 0))), (a33, .inl (cJ, 256, .inr (.inl (fun _ => 0)))), (a47, .inr (10, [.ref a48, .ref a49, .int 0, .int 0, .int 0, .int (-1), .int 0, .int 0, .int 0, .int 0, .long 0, .ref a50, .ref a51, .ref a52, .ref a53, .ref a54, .ref a55, .ref a56, .ref a57, .ref a58, .ref a59, .ref a60, .ref a61, .ref a62, .ref a63, .ref a64, .ref a65, .ref a66, .ref a67, .ref a68, .ref a69, .ref a70, .ref a71, .ref a72, .ref a73, .ref a74, .ref a75, .ref a76, .ref a77, .ref a78, .int 0, .int 0, .ref a79, .ref a80, .int 0, .int 0, .int 0, .int 0, .ref a81, .int 0, .ref a82, .ref a83, .ref a84, .int 0, .int 0, .int 0, .int 0, .int 0, .int 0, .int 0, .int 0, .ref a85, .int 0, .ref a86, .ref a87, .ref a88, .ref a89, .int 0, .int 0])), (a59, .inl (cI, 2, .inl (fun _ => 0))), (a55, .inl (cI, 2, .inl (upd (fun _ => 0) 0 100))), (a54, .inl (cI, 2, .inl (upd (fun _ => 0) 0 100))), (a58, .inl (cI, 4, .inl (upd (upd (fun _ => 0) 0 16) 1 16))), (a57, .inl (cI, 4, .inl (upd (upd (fun _ => 0) 0 16) 1 16))), (a66, .inl (cI, 2, .inl (fun _ => 0))), (a84, .inl (cI, 2, .inl (fun _ => 0))), (a82, .inl (cI, 300000, .inl (fun _ => 0)))]) (hS : va_S A s.heap H locs) (hl : lv_has ls 4 [(3, .int 0), (2, .ref a47), (1, .ref a0), (0, .ref b)]) : W p l e room_1 s m #[Value.ref b] below meth c H locs 1000 1000000 (lw_Z below #[Value.ref b] s) (F0 m 471 ls []) := by
  obtain ⟨hx, hb, hml, hown, hts⟩ := id hC
  refine lv_aload_n hx hb dL_law_471 rfl (lv_at hl 2 rfl) ?_
  refine lv_aload_n hx hb dL_law_472 rfl (lv_at hl 3 rfl) ?_
  refine lv_iload_n hx hb dL_law_473 rfl (lv_at hl 0 rfl) ?_
  refine lv_iconst (v := 1) hx hb dL_law_474 (by decide) ?_
  refine lv_iadd hx hb dL_law_475 ?_
  refine k_i 1 (by decide +kernel) ?_
  refine va_sld hx hb hX hbl hbA hS (i := 1) (k_in (k := 1) (by decide +kernel) (by decide)) dL_law_476 ?_
  refine k_i (xs 1) (congrArg xs (by decide +kernel)) ?_
  refine lv_aload_n hx hb dL_law_477 rfl (lv_at hl 3 rfl) ?_
  refine lv_iload_n hx hb dL_law_478 rfl (lv_at hl 0 rfl) ?_
  refine lv_iconst (v := 2) hx hb dL_law_479 (by decide) ?_
  refine lv_iadd hx hb dL_law_480 ?_
  refine k_i 2 (by decide +kernel) ?_
  refine va_sld hx hb hX hbl hbA hS (i := 2) (k_in (k := 2) (by decide +kernel) (by decide)) dL_law_481 ?_
  refine k_i (xs 2) (congrArg xs (by decide +kernel)) ?_
  refine lv_aload_n hx hb dL_law_482 rfl (lv_at hl 3 rfl) ?_
  refine lv_iload_n hx hb dL_law_483 rfl (lv_at hl 0 rfl) ?_
  refine lv_iconst (v := 3) hx hb dL_law_484 (by decide) ?_
  refine lv_iadd hx hb dL_law_485 ?_
  refine k_i 3 (by decide +kernel) ?_
  refine va_sld hx hb hX hbl hbA hS (i := 3) (k_in (k := 3) (by decide +kernel) (by decide)) dL_law_486 ?_
  refine k_i (xs 3) (congrArg xs (by decide +kernel)) ?_
  refine k_ci (wr := [(a47, .inr (10, [.ref a48, .ref a49, .int 0, .int 0, .int 0, .int (-1), .int 0, .int 0, .int 0, .int 0, .long 0, .ref a50, .ref a51, .ref a52, .ref a53, .ref a54, .ref a55, .ref a56, .ref a57, .ref a58, .ref a59, .ref a60, .ref a61, .ref a62, .ref a63, .ref a64, .ref a65, .ref a66, .ref a67, .ref a68, .ref a69, .ref a70, .ref a71, .ref a72, .ref a73, .ref a74, .ref a75, .ref a76, .ref a77, .ref a78, .int 0, .int 0, .ref a79, .ref a80, .int 0, .int 0, .int 0, .int 0, .ref a81, .int 0, .ref a82, .ref a83, .ref a84, .int 0, .int 0, .int 0, .int 0, .int 0, .int 0, .int 0, .int 0, .ref a85, .int 0, .ref a86, .ref a87, .ref a88, .ref a89, .int 0, .int 0])), (a59, .inl (cI, 2, .inl (fun _ => 0))), (a55, .inl (cI, 2, .inl (upd (fun _ => 0) 0 100))), (a54, .inl (cI, 2, .inl (upd (fun _ => 0) 0 100))), (a58, .inl (cI, 4, .inl (upd (upd (fun _ => 0) 0 16) 1 16))), (a57, .inl (cI, 4, .inl (upd (upd (fun _ => 0) 0 16) 1 16))), (a66, .inl (cI, 2, .inl (fun _ => 0))), (a84, .inl (cI, 2, .inl (fun _ => 0))), (a82, .inl (cI, 300000, .inl (fun _ => 0)))]) (k_rV hC hN hK hP hD (c78_X9_fit l G cI cJ cB cZ a0 a1 a2 a3 a4 a5 a6 a7 a8 a9 a10 a11 a12 a13 a14 a15 a16 a17 a18 a19 a20 a21 a22 a23 a24 a25 a26 a27 a28 a29 a30 a31 a32 a33 a34 a35 a36 a37 a38 a39 a40 a41 a42 a43 a44 a45 a46 (xs 1) (xs 2) (xs 3)) [0, 1, 2, 3, 4, 5, 6, 7, 8, 9, 10] rfl (by decide) mi_X9_fit in_X9_fit se_X9_fit wm_L_54 9 0 rfl rfl rfl hl.1 rfl rfl (Nat.le_of_ble_eq_true rfl) ⟨(Nat.le_of_ble_eq_true rfl), (Nat.le_of_ble_eq_true rfl)⟩ dL_law_487 ⟨(Nat.le_of_ble_eq_true rfl), (Nat.le_of_ble_eq_true rfl)⟩) hP hD hS hA [0, 1, 2, 3, 4, 5, 6, 7, 8, 9, 10] [11, 12, 13, 14, 15, 16, 17, 18, 19] rfl rfl (by decide) (by decide) (fun r1 u1 H locs hp hP hD hS => ?_)
  have hP : va_P G cl [(a47, .inr (10, [.ref a48, .ref a49, .int 0, .int 0, .int 0, .int (-1), .int 0, .int 0, .int 0, .int 0, .long 0, .ref a50, .ref a51, .ref a52, .ref a53, .ref a54, .ref a55, .ref a56, .ref a57, .ref a58, .ref a59, .ref a60, .ref a61, .ref a62, .ref a63, .ref a64, .ref a65, .ref a66, .ref a67, .ref a68, .ref a69, .ref a70, .ref a71, .ref a72, .ref a73, .ref a74, .ref a75, .ref a76, .ref a77, .ref a78, .int 0, .int 0, .ref a79, .ref a80, .int 0, .int 0, .int 0, .int 0, .ref a81, .int 0, .ref a82, .ref a83, .ref a84, .int 0, .int 0, .int 0, .int 0, .int 0, .int 0, .int 0, .int 0, .ref a85, .int 0, .ref a86, .ref a87, .ref a88, .ref a89, .int 0, .int 0])), (a59, .inl (cI, 2, .inl (fun _ => 0))), (a55, .inl (cI, 2, .inl (upd (fun _ => 0) 0 100))), (a54, .inl (cI, 2, .inl (upd (fun _ => 0) 0 100))), (a58, .inl (cI, 4, .inl (upd (upd (fun _ => 0) 0 16) 1 16))), (a57, .inl (cI, 4, .inl (upd (upd (fun _ => 0) 0 16) 1 16))), (a66, .inl (cI, 2, .inl (fun _ => 0))), (a84, .inl (cI, 2, .inl (fun _ => 0))), (a82, .inl (cI, 300000, .inl (fun _ => 0)))] H := hP
  have hD : va_D A [(a47, .inr (10, [.ref a48, .ref a49, .int 0, .int 0, .int 0, .int (-1), .int 0, .int 0, .int 0, .int 0, .long 0, .ref a50, .ref a51, .ref a52, .ref a53, .ref a54, .ref a55, .ref a56, .ref a57, .ref a58, .ref a59, .ref a60, .ref a61, .ref a62, .ref a63, .ref a64, .ref a65, .ref a66, .ref a67, .ref a68, .ref a69, .ref a70, .ref a71, .ref a72, .ref a73, .ref a74, .ref a75, .ref a76, .ref a77, .ref a78, .int 0, .int 0, .ref a79, .ref a80, .int 0, .int 0, .int 0, .int 0, .ref a81, .int 0, .ref a82, .ref a83, .ref a84, .int 0, .int 0, .int 0, .int 0, .int 0, .int 0, .int 0, .int 0, .ref a85, .int 0, .ref a86, .ref a87, .ref a88, .ref a89, .int 0, .int 0])), (a59, .inl (cI, 2, .inl (fun _ => 0))), (a55, .inl (cI, 2, .inl (upd (fun _ => 0) 0 100))), (a54, .inl (cI, 2, .inl (upd (fun _ => 0) 0 100))), (a58, .inl (cI, 4, .inl (upd (upd (fun _ => 0) 0 16) 1 16))), (a57, .inl (cI, 4, .inl (upd (upd (fun _ => 0) 0 16) 1 16))), (a66, .inl (cI, 2, .inl (fun _ => 0))), (a84, .inl (cI, 2, .inl (fun _ => 0))), (a82, .inl (cI, 300000, .inl (fun _ => 0)))] := hD
  have hp1 := hp
  refine lv_aload_n hx hb dL_law_490 rfl (lv_at hl 1 rfl) ?_
  refine lv_aload_n hx hb dL_law_491 rfl (lv_at hl 3 rfl) ?_
  refine lv_iload_n hx hb dL_law_492 rfl (lv_at hl 0 rfl) ?_
  refine lv_iconst (v := 1) hx hb dL_law_493 (by decide) ?_
  refine lv_iadd hx hb dL_law_494 ?_
  refine k_i 1 (by decide +kernel) ?_
  refine va_sld hx hb hX hbl hbA hS (i := 1) (k_in (k := 1) (by decide +kernel) (by decide)) dL_law_495 ?_
  refine k_i (xs 1) (congrArg xs (by decide +kernel)) ?_
  refine lv_aload_n hx hb dL_law_496 rfl (lv_at hl 3 rfl) ?_
  refine lv_iload_n hx hb dL_law_497 rfl (lv_at hl 0 rfl) ?_
  refine lv_iconst (v := 2) hx hb dL_law_498 (by decide) ?_
  refine lv_iadd hx hb dL_law_499 ?_
  refine k_i 2 (by decide +kernel) ?_
  refine va_sld hx hb hX hbl hbA hS (i := 2) (k_in (k := 2) (by decide +kernel) (by decide)) dL_law_500 ?_
  refine k_i (xs 2) (congrArg xs (by decide +kernel)) ?_
  refine lv_aload_n hx hb dL_law_501 rfl (lv_at hl 3 rfl) ?_
  refine lv_iload_n hx hb dL_law_502 rfl (lv_at hl 0 rfl) ?_
  refine lv_iconst (v := 3) hx hb dL_law_503 (by decide) ?_
  refine lv_iadd hx hb dL_law_504 ?_
  refine k_i 3 (by decide +kernel) ?_
  refine va_sld hx hb hX hbl hbA hS (i := 3) (k_in (k := 3) (by decide +kernel) (by decide)) dL_law_505 ?_
  refine k_i (xs 3) (congrArg xs (by decide +kernel)) ?_
  refine k_ci (wr := []) (k_rV hC hN hK hP hD (c171_X10_fit l G cI cJ cB cZ a47 a48 a49 a50 a51 a52 a53 a54 a55 a56 a57 a58 a59 a60 a61 a62 a63 a64 a65 a66 a67 a68 a69 a70 a71 a72 a73 a74 a75 a76 a77 a78 a79 a80 a81 a82 a83 a84 a85 a86 a87 a88 a89 (xs 1) (xs 2) (xs 3)) [0, 1, 2, 3, 4, 5, 6, 7, 8] rfl (by decide) mi_X10_fit in_X10_fit se_X10_fit wm_L_58 10 0 rfl rfl rfl hl.1 rfl rfl (Nat.le_of_ble_eq_true rfl) ⟨(Nat.le_of_ble_eq_true rfl), (Nat.le_of_ble_eq_true rfl)⟩ dL_law_506 ⟨(Nat.le_of_ble_eq_true rfl), (Nat.le_of_ble_eq_true rfl)⟩) hP hD hS hA [0, 1, 2, 3, 4, 5, 6, 7, 8] [] rfl rfl (by decide) (by decide) (fun r2 u2 H locs hp hP hD hS => ?_)
  have hP : va_P G cl [] H := hP
  have hD : va_D A [] := hD
  have hp2 := hp
  refine lv_icmp_eq (tgt := 1428) hx hb dL_law_509 (by decide) (fun _ => ?_) (fun c_ => absurd (hp1.trans hp2.symm) c_)
  exact law_tail hC hr hlk hX hbl hbA hfo hS hl (Nat.le_of_ble_eq_true rfl) (Nat.le_of_ble_eq_true rfl)
set_option maxRecDepth 100000 in
theorem wm_L_59 : Cond.methodLink RL 59 yX9_span ∈ gw := gm (List.mem_of_getElem? (i := 959) (by decide +kernel)) rfl
set_option maxRecDepth 100000 in
theorem mi_X9_span : MI yX9_span cX9_span 6 (some .int) 3 := ⟨gm (List.mem_of_getElem? (i := 962) rfl) rfl, gm (List.mem_of_getElem? (i := 112) (by decide +kernel)) rfl, by decide, by decide, by decide +kernel⟩
set_option maxRecDepth 100000 in
theorem in_X9_span : Cond.instanceMethod yX9_span ∈ gw := gm (List.mem_of_getElem? (i := 960) (by decide +kernel)) rfl
set_option maxRecDepth 100000 in
theorem se_X9_span : Cond.selects yX9_span.cls yX9_span yX9_span ∈ gw := gm (List.mem_of_getElem? (i := 961) (by decide +kernel)) rfl
set_option maxRecDepth 100000 in
theorem wm_L_63 : Cond.methodLink RL 63 yX10_span ∈ gw := gm (List.mem_of_getElem? (i := 1687) (by decide +kernel)) rfl
set_option maxHeartbeats 4000000 in
set_option maxRecDepth 100000 in
theorem law_span {p : Program} {l : Launch} {e : Env} {s : State} {m : MethodId} {below : List Frame} {meth : Method} {c : Code} {b : Nat} {xs : Nat → Int32} {A : Nat → Prop} {H : Heap} {locs : List Loc} {ls : Array Slot} {G : va_G} {cI cJ cB cZ : ClassId} (a0 a1 a2 a3 a4 a5 a6 a7 a8 a9 a10 a11 a12 a13 a14 a15 a16 a17 a18 a19 a20 a21 a22 a23 a24 a25 a26 a27 a28 a29 a30 a31 a32 a33 a34 a35 a36 a37 a38 a39 a40 a41 a42 a43 a44 a45 a46 a47 a48 a49 a50 a51 a52 a53 a54 a55 a56 a57 a58 a59 a60 a61 a62 a63 a64 a65 a66 a67 a68 a69 a70 a71 a72 a73 a74 a75 a76 a77 a78 a79 a80 a81 a82 a83 a84 a85 a86 a87 a88 a89 : Nat) (hC : CallFix p m c code 4 s #[Value.ref b] gw R_law) (hr : meth.sig.returnType = ret) (hlk : meth.locks = false) (hN : NW s) (hK : va_K G cl (TY cI cJ cB cZ) s) (hX : va_X b 6 xs s s.heap) (hbl : b < s.heap.size) (hA : ∀ q, s.heap.size ≤ q → A q) (hbA : ¬ A b) (hfo : ∀ q, A q → s.heap.size ≤ q) (hP : va_P G cl [(a0, .inr (9, [.ref a1, .ref a2, .ref a3, .int 0, .int 0, .ref a4, .ref a5, .ref a6, .ref a7])), (a1, .inr (7, [.int 100, .int 100, .int 0, .ref a8, .ref a9, .int 0, .ref a10, .ref a11, .ref a12, .ref a13, .ref a14, .ref a15, .ref a16, .ref a17, .ref a18])), (a9, .inl (cI, 2, .inl (upd (upd (fun _ => 0) 0 16) 1 16))), (a8, .inl (cI, 2, .inl (upd (upd (fun _ => 0) 0 16) 1 16))), (a17, .inr (8, [.ref a19, .ref a20, .ref a21, .ref a22, .ref a23, .ref a24, .ref a25, .int 0])), (a3, .inr (8, [.ref a26, .ref a27, .ref a28, .ref a29, .ref a30, .ref a31, .ref a32, .int 0])), (a5, .inr (0, [.ref a33, .int 0, .int 0, .long 0, .int 0, .int 0, .long 0])), (a4, .inr (4, [.ref a34, .ref a5, .ref a35, .ref a36, .ref a37, .ref a38, .ref a39, .int 100, .int 0, .int 0, .int (-1)])), (a35, .inr (8, [.ref a40, .ref a41, .ref a42, .ref a43, .ref a44, .ref a45, .ref a46, .int 0])), (a36, .inl (cI, 7, .inl (fun _ => 0))), (a33, .inl (cJ, 256, .inr (.inl (fun _ => 0)))), (a7, .inr (1, [.int 0, .int 0, .int 0, .int 0, .int 0])), (a47, .inr (10, [.ref a48, .ref a49, .int 0, .int 0, .int 0, .int (-1), .int 0, .int 0, .int 0, .int 0, .long 0, .ref a50, .ref a51, .ref a52, .ref a53, .ref a54, .ref a55, .ref a56, .ref a57, .ref a58, .ref a59, .ref a60, .ref a61, .ref a62, .ref a63, .ref a64, .ref a65, .ref a66, .ref a67, .ref a68, .ref a69, .ref a70, .ref a71, .ref a72, .ref a73, .ref a74, .ref a75, .ref a76, .ref a77, .ref a78, .int 0, .int 0, .ref a79, .ref a80, .int 0, .int 0, .int 0, .int 0, .ref a81, .int 0, .ref a82, .ref a83, .ref a84, .int 0, .int 0, .int 0, .int 0, .int 0, .int 0, .int 0, .int 0, .ref a85, .int 0, .ref a86, .ref a87, .ref a88, .ref a89, .int 0, .int 0])), (a59, .inl (cI, 2, .inl (fun _ => 0))), (a55, .inl (cI, 2, .inl (upd (fun _ => 0) 0 100))), (a54, .inl (cI, 2, .inl (upd (fun _ => 0) 0 100))), (a58, .inl (cI, 4, .inl (upd (upd (fun _ => 0) 0 16) 1 16))), (a57, .inl (cI, 4, .inl (upd (upd (fun _ => 0) 0 16) 1 16))), (a66, .inl (cI, 2, .inl (fun _ => 0))), (a84, .inl (cI, 2, .inl (fun _ => 0))), (a82, .inl (cI, 300000, .inl (fun _ => 0)))] H) (hD : va_D A [(a0, .inr (9, [.ref a1, .ref a2, .ref a3, .int 0, .int 0, .ref a4, .ref a5, .ref a6, .ref a7])), (a1, .inr (7, [.int 100, .int 100, .int 0, .ref a8, .ref a9, .int 0, .ref a10, .ref a11, .ref a12, .ref a13, .ref a14, .ref a15, .ref a16, .ref a17, .ref a18])), (a9, .inl (cI, 2, .inl (upd (upd (fun _ => 0) 0 16) 1 16))), (a8, .inl (cI, 2, .inl (upd (upd (fun _ => 0) 0 16) 1 16))), (a17, .inr (8, [.ref a19, .ref a20, .ref a21, .ref a22, .ref a23, .ref a24, .ref a25, .int 0])), (a3, .inr (8, [.ref a26, .ref a27, .ref a28, .ref a29, .ref a30, .ref a31, .ref a32, .int 0])), (a5, .inr (0, [.ref a33, .int 0, .int 0, .long 0, .int 0, .int 0, .long 0])), (a4, .inr (4, [.ref a34, .ref a5, .ref a35, .ref a36, .ref a37, .ref a38, .ref a39, .int 100, .int 0, .int 0, .int (-1)])), (a35, .inr (8, [.ref a40, .ref a41, .ref a42, .ref a43, .ref a44, .ref a45, .ref a46, .int 0])), (a36, .inl (cI, 7, .inl (fun _ => 0))), (a33, .inl (cJ, 256, .inr (.inl (fun _ => 0)))), (a7, .inr (1, [.int 0, .int 0, .int 0, .int 0, .int 0])), (a47, .inr (10, [.ref a48, .ref a49, .int 0, .int 0, .int 0, .int (-1), .int 0, .int 0, .int 0, .int 0, .long 0, .ref a50, .ref a51, .ref a52, .ref a53, .ref a54, .ref a55, .ref a56, .ref a57, .ref a58, .ref a59, .ref a60, .ref a61, .ref a62, .ref a63, .ref a64, .ref a65, .ref a66, .ref a67, .ref a68, .ref a69, .ref a70, .ref a71, .ref a72, .ref a73, .ref a74, .ref a75, .ref a76, .ref a77, .ref a78, .int 0, .int 0, .ref a79, .ref a80, .int 0, .int 0, .int 0, .int 0, .ref a81, .int 0, .ref a82, .ref a83, .ref a84, .int 0, .int 0, .int 0, .int 0, .int 0, .int 0, .int 0, .int 0, .ref a85, .int 0, .ref a86, .ref a87, .ref a88, .ref a89, .int 0, .int 0])), (a59, .inl (cI, 2, .inl (fun _ => 0))), (a55, .inl (cI, 2, .inl (upd (fun _ => 0) 0 100))), (a54, .inl (cI, 2, .inl (upd (fun _ => 0) 0 100))), (a58, .inl (cI, 4, .inl (upd (upd (fun _ => 0) 0 16) 1 16))), (a57, .inl (cI, 4, .inl (upd (upd (fun _ => 0) 0 16) 1 16))), (a66, .inl (cI, 2, .inl (fun _ => 0))), (a84, .inl (cI, 2, .inl (fun _ => 0))), (a82, .inl (cI, 300000, .inl (fun _ => 0)))]) (hS : va_S A s.heap H locs) (hl : lv_has ls 4 [(3, .int 0), (2, .ref a47), (1, .ref a0), (0, .ref b)]) : W p l e room_1 s m #[Value.ref b] below meth c H locs 1000 1000000 (lw_Z below #[Value.ref b] s) (F0 m 514 ls []) := by
  obtain ⟨hx, hb, hml, hown, hts⟩ := id hC
  refine lv_aload_n hx hb dL_law_514 rfl (lv_at hl 2 rfl) ?_
  refine lv_aload_n hx hb dL_law_515 rfl (lv_at hl 3 rfl) ?_
  refine lv_iload_n hx hb dL_law_516 rfl (lv_at hl 0 rfl) ?_
  refine lv_iconst (v := 1) hx hb dL_law_517 (by decide) ?_
  refine lv_iadd hx hb dL_law_518 ?_
  refine k_i 1 (by decide +kernel) ?_
  refine va_sld hx hb hX hbl hbA hS (i := 1) (k_in (k := 1) (by decide +kernel) (by decide)) dL_law_519 ?_
  refine k_i (xs 1) (congrArg xs (by decide +kernel)) ?_
  refine lv_aload_n hx hb dL_law_520 rfl (lv_at hl 3 rfl) ?_
  refine lv_iload_n hx hb dL_law_521 rfl (lv_at hl 0 rfl) ?_
  refine lv_iconst (v := 2) hx hb dL_law_522 (by decide) ?_
  refine lv_iadd hx hb dL_law_523 ?_
  refine k_i 2 (by decide +kernel) ?_
  refine va_sld hx hb hX hbl hbA hS (i := 2) (k_in (k := 2) (by decide +kernel) (by decide)) dL_law_524 ?_
  refine k_i (xs 2) (congrArg xs (by decide +kernel)) ?_
  refine lv_if_eq (tgt := 532) hx hb dL_law_525 (by decide) (fun c_1 => ?_) (fun c_1 => ?_)
  · have d_1 : (xs 2).toInt = 0 := (fa_eq _ _).mp c_1
    refine lv_iconst (v := 0) hx hb dL_law_532 (by decide) ?_
    refine lv_aload_n hx hb dL_law_533 rfl (lv_at hl 3 rfl) ?_
    refine lv_iload_n hx hb dL_law_534 rfl (lv_at hl 0 rfl) ?_
    refine lv_iconst (v := 3) hx hb dL_law_535 (by decide) ?_
    refine lv_iadd hx hb dL_law_536 ?_
    refine k_i 3 (by decide +kernel) ?_
    refine va_sld hx hb hX hbl hbA hS (i := 3) (k_in (k := 3) (by decide +kernel) (by decide)) dL_law_537 ?_
    refine k_i (xs 3) (congrArg xs (by decide +kernel)) ?_
    refine k_ci (wr := [(a47, .inr (10, [.ref a48, .ref a49, .int 0, .int 0, .int 0, .int (-1), .int 0, .int 0, .int 0, .int 0, .long 0, .ref a50, .ref a51, .ref a52, .ref a53, .ref a54, .ref a55, .ref a56, .ref a57, .ref a58, .ref a59, .ref a60, .ref a61, .ref a62, .ref a63, .ref a64, .ref a65, .ref a66, .ref a67, .ref a68, .ref a69, .ref a70, .ref a71, .ref a72, .ref a73, .ref a74, .ref a75, .ref a76, .ref a77, .ref a78, .int 0, .int 0, .ref a79, .ref a80, .int 0, .int 0, .int 0, .int 0, .ref a81, .int 0, .ref a82, .ref a83, .ref a84, .int 0, .int 0, .int 0, .int 0, .int 0, .int 0, .int 0, .int 0, .ref a85, .int 0, .ref a86, .ref a87, .ref a88, .ref a89, .int 0, .int 0])), (a59, .inl (cI, 2, .inl (fun _ => 0))), (a55, .inl (cI, 2, .inl (upd (fun _ => 0) 0 100))), (a54, .inl (cI, 2, .inl (upd (fun _ => 0) 0 100))), (a58, .inl (cI, 4, .inl (upd (upd (fun _ => 0) 0 16) 1 16))), (a57, .inl (cI, 4, .inl (upd (upd (fun _ => 0) 0 16) 1 16))), (a66, .inl (cI, 2, .inl (fun _ => 0))), (a84, .inl (cI, 2, .inl (fun _ => 0))), (a82, .inl (cI, 300000, .inl (fun _ => 0)))]) (k_rV hC hN hK hP hD (c86_X9_span l G cI cJ cB cZ a0 a1 a2 a3 a4 a5 a6 a7 a8 a9 a10 a11 a12 a13 a14 a15 a16 a17 a18 a19 a20 a21 a22 a23 a24 a25 a26 a27 a28 a29 a30 a31 a32 a33 a34 a35 a36 a37 a38 a39 a40 a41 a42 a43 a44 a45 a46 (xs 1) 0 (xs 3)) [0, 1, 2, 3, 4, 5, 6, 7, 8, 9, 10, 11] rfl (by decide) mi_X9_span in_X9_span se_X9_span wm_L_59 9 0 rfl rfl rfl hl.1 rfl rfl (Nat.le_of_ble_eq_true rfl) ⟨(Nat.le_of_ble_eq_true rfl), (Nat.le_of_ble_eq_true rfl)⟩ dL_law_538 ⟨(Nat.le_of_ble_eq_true rfl), (Nat.le_of_ble_eq_true rfl)⟩) hP hD hS hA [0, 1, 2, 3, 4, 5, 6, 7, 8, 9, 10, 11] [12, 13, 14, 15, 16, 17, 18, 19, 20] rfl rfl (by decide) (by decide) (fun r2 u2 H locs hp hP hD hS => ?_)
    have hP : va_P G cl [(a47, .inr (10, [.ref a48, .ref a49, .int 0, .int 0, .int 0, .int (-1), .int 0, .int 0, .int 0, .int 0, .long 0, .ref a50, .ref a51, .ref a52, .ref a53, .ref a54, .ref a55, .ref a56, .ref a57, .ref a58, .ref a59, .ref a60, .ref a61, .ref a62, .ref a63, .ref a64, .ref a65, .ref a66, .ref a67, .ref a68, .ref a69, .ref a70, .ref a71, .ref a72, .ref a73, .ref a74, .ref a75, .ref a76, .ref a77, .ref a78, .int 0, .int 0, .ref a79, .ref a80, .int 0, .int 0, .int 0, .int 0, .ref a81, .int 0, .ref a82, .ref a83, .ref a84, .int 0, .int 0, .int 0, .int 0, .int 0, .int 0, .int 0, .int 0, .ref a85, .int 0, .ref a86, .ref a87, .ref a88, .ref a89, .int 0, .int 0])), (a59, .inl (cI, 2, .inl (fun _ => 0))), (a55, .inl (cI, 2, .inl (upd (fun _ => 0) 0 100))), (a54, .inl (cI, 2, .inl (upd (fun _ => 0) 0 100))), (a58, .inl (cI, 4, .inl (upd (upd (fun _ => 0) 0 16) 1 16))), (a57, .inl (cI, 4, .inl (upd (upd (fun _ => 0) 0 16) 1 16))), (a66, .inl (cI, 2, .inl (fun _ => 0))), (a84, .inl (cI, 2, .inl (fun _ => 0))), (a82, .inl (cI, 300000, .inl (fun _ => 0)))] H := hP
    have hD : va_D A [(a47, .inr (10, [.ref a48, .ref a49, .int 0, .int 0, .int 0, .int (-1), .int 0, .int 0, .int 0, .int 0, .long 0, .ref a50, .ref a51, .ref a52, .ref a53, .ref a54, .ref a55, .ref a56, .ref a57, .ref a58, .ref a59, .ref a60, .ref a61, .ref a62, .ref a63, .ref a64, .ref a65, .ref a66, .ref a67, .ref a68, .ref a69, .ref a70, .ref a71, .ref a72, .ref a73, .ref a74, .ref a75, .ref a76, .ref a77, .ref a78, .int 0, .int 0, .ref a79, .ref a80, .int 0, .int 0, .int 0, .int 0, .ref a81, .int 0, .ref a82, .ref a83, .ref a84, .int 0, .int 0, .int 0, .int 0, .int 0, .int 0, .int 0, .int 0, .ref a85, .int 0, .ref a86, .ref a87, .ref a88, .ref a89, .int 0, .int 0])), (a59, .inl (cI, 2, .inl (fun _ => 0))), (a55, .inl (cI, 2, .inl (upd (fun _ => 0) 0 100))), (a54, .inl (cI, 2, .inl (upd (fun _ => 0) 0 100))), (a58, .inl (cI, 4, .inl (upd (upd (fun _ => 0) 0 16) 1 16))), (a57, .inl (cI, 4, .inl (upd (upd (fun _ => 0) 0 16) 1 16))), (a66, .inl (cI, 2, .inl (fun _ => 0))), (a84, .inl (cI, 2, .inl (fun _ => 0))), (a82, .inl (cI, 300000, .inl (fun _ => 0)))] := hD
    have hp2 := hp
    refine lv_aload_n hx hb dL_law_541 rfl (lv_at hl 1 rfl) ?_
    refine lv_aload_n hx hb dL_law_542 rfl (lv_at hl 3 rfl) ?_
    refine lv_iload_n hx hb dL_law_543 rfl (lv_at hl 0 rfl) ?_
    refine lv_iconst (v := 1) hx hb dL_law_544 (by decide) ?_
    refine lv_iadd hx hb dL_law_545 ?_
    refine k_i 1 (by decide +kernel) ?_
    refine va_sld hx hb hX hbl hbA hS (i := 1) (k_in (k := 1) (by decide +kernel) (by decide)) dL_law_546 ?_
    refine k_i (xs 1) (congrArg xs (by decide +kernel)) ?_
    refine lv_aload_n hx hb dL_law_547 rfl (lv_at hl 3 rfl) ?_
    refine lv_iload_n hx hb dL_law_548 rfl (lv_at hl 0 rfl) ?_
    refine lv_iconst (v := 2) hx hb dL_law_549 (by decide) ?_
    refine lv_iadd hx hb dL_law_550 ?_
    refine k_i 2 (by decide +kernel) ?_
    refine va_sld hx hb hX hbl hbA hS (i := 2) (k_in (k := 2) (by decide +kernel) (by decide)) dL_law_551 ?_
    refine k_i (xs 2) (congrArg xs (by decide +kernel)) ?_
    refine lv_if_eq (tgt := 559) hx hb dL_law_552 (by decide) (fun c_3 => ?_) (fun c_3 => by have d_3 : (xs 2).toInt ≠ 0 := fa_ne c_3; omega)
    have d_3 : (xs 2).toInt = 0 := (fa_eq _ _).mp c_3
    refine lv_iconst (v := 0) hx hb dL_law_559 (by decide) ?_
    refine lv_aload_n hx hb dL_law_560 rfl (lv_at hl 3 rfl) ?_
    refine lv_iload_n hx hb dL_law_561 rfl (lv_at hl 0 rfl) ?_
    refine lv_iconst (v := 3) hx hb dL_law_562 (by decide) ?_
    refine lv_iadd hx hb dL_law_563 ?_
    refine k_i 3 (by decide +kernel) ?_
    refine va_sld hx hb hX hbl hbA hS (i := 3) (k_in (k := 3) (by decide +kernel) (by decide)) dL_law_564 ?_
    refine k_i (xs 3) (congrArg xs (by decide +kernel)) ?_
    refine k_ci (wr := []) (k_rV hC hN hK hP hD (c177_X10_span l G cI cJ cB cZ a47 a48 a49 a50 a51 a52 a53 a54 a55 a56 a57 a58 a59 a60 a61 a62 a63 a64 a65 a66 a67 a68 a69 a70 a71 a72 a73 a74 a75 a76 a77 a78 a79 a80 a81 a82 a83 a84 a85 a86 a87 a88 a89 (xs 1) 0 (xs 3)) [0, 1, 2, 3, 4, 5, 6, 7, 8] rfl (by decide) mi_X10_span in_X10_span se_X10_span wm_L_63 10 0 rfl rfl rfl hl.1 rfl rfl (Nat.le_of_ble_eq_true rfl) ⟨(Nat.le_of_ble_eq_true rfl), (Nat.le_of_ble_eq_true rfl)⟩ dL_law_565 ⟨(Nat.le_of_ble_eq_true rfl), (Nat.le_of_ble_eq_true rfl)⟩) hP hD hS hA [0, 1, 2, 3, 4, 5, 6, 7, 8] [] rfl rfl (by decide) (by decide) (fun r4 u4 H locs hp hP hD hS => ?_)
    have hP : va_P G cl [] H := hP
    have hD : va_D A [] := hD
    have hp4 := hp
    refine lv_icmp_eq (tgt := 1428) hx hb dL_law_568 (by decide) (fun _ => ?_) (fun c_ => absurd (hp2.trans hp4.symm) c_)
    exact law_tail hC hr hlk hX hbl hbA hfo hS hl (Nat.le_of_ble_eq_true rfl) (Nat.le_of_ble_eq_true rfl)
  · have d_1 : (xs 2).toInt ≠ 0 := fa_ne c_1
    refine lv_iconst (v := 1) hx hb dL_law_528 (by decide) ?_
    refine lv_goto (tgt := 533) hx hb dL_law_529 (by decide) ?_
    refine lv_aload_n hx hb dL_law_533 rfl (lv_at hl 3 rfl) ?_
    refine lv_iload_n hx hb dL_law_534 rfl (lv_at hl 0 rfl) ?_
    refine lv_iconst (v := 3) hx hb dL_law_535 (by decide) ?_
    refine lv_iadd hx hb dL_law_536 ?_
    refine k_i 3 (by decide +kernel) ?_
    refine va_sld hx hb hX hbl hbA hS (i := 3) (k_in (k := 3) (by decide +kernel) (by decide)) dL_law_537 ?_
    refine k_i (xs 3) (congrArg xs (by decide +kernel)) ?_
    refine k_ci (wr := [(a47, .inr (10, [.ref a48, .ref a49, .int 0, .int 0, .int 0, .int (-1), .int 0, .int 0, .int 0, .int 0, .long 0, .ref a50, .ref a51, .ref a52, .ref a53, .ref a54, .ref a55, .ref a56, .ref a57, .ref a58, .ref a59, .ref a60, .ref a61, .ref a62, .ref a63, .ref a64, .ref a65, .ref a66, .ref a67, .ref a68, .ref a69, .ref a70, .ref a71, .ref a72, .ref a73, .ref a74, .ref a75, .ref a76, .ref a77, .ref a78, .int 0, .int 0, .ref a79, .ref a80, .int 0, .int 0, .int 0, .int 0, .ref a81, .int 0, .ref a82, .ref a83, .ref a84, .int 0, .int 0, .int 0, .int 0, .int 0, .int 0, .int 0, .int 0, .ref a85, .int 0, .ref a86, .ref a87, .ref a88, .ref a89, .int 0, .int 0])), (a59, .inl (cI, 2, .inl (fun _ => 0))), (a55, .inl (cI, 2, .inl (upd (fun _ => 0) 0 100))), (a54, .inl (cI, 2, .inl (upd (fun _ => 0) 0 100))), (a58, .inl (cI, 4, .inl (upd (upd (fun _ => 0) 0 16) 1 16))), (a57, .inl (cI, 4, .inl (upd (upd (fun _ => 0) 0 16) 1 16))), (a66, .inl (cI, 2, .inl (fun _ => 0))), (a84, .inl (cI, 2, .inl (fun _ => 0))), (a82, .inl (cI, 300000, .inl (fun _ => 0)))]) (k_rV hC hN hK hP hD (c86_X9_span l G cI cJ cB cZ a0 a1 a2 a3 a4 a5 a6 a7 a8 a9 a10 a11 a12 a13 a14 a15 a16 a17 a18 a19 a20 a21 a22 a23 a24 a25 a26 a27 a28 a29 a30 a31 a32 a33 a34 a35 a36 a37 a38 a39 a40 a41 a42 a43 a44 a45 a46 (xs 1) 1 (xs 3)) [0, 1, 2, 3, 4, 5, 6, 7, 8, 9, 10, 11] rfl (by decide) mi_X9_span in_X9_span se_X9_span wm_L_59 9 0 rfl rfl rfl hl.1 rfl rfl (Nat.le_of_ble_eq_true rfl) ⟨(Nat.le_of_ble_eq_true rfl), (Nat.le_of_ble_eq_true rfl)⟩ dL_law_538 ⟨(Nat.le_of_ble_eq_true rfl), (Nat.le_of_ble_eq_true rfl)⟩) hP hD hS hA [0, 1, 2, 3, 4, 5, 6, 7, 8, 9, 10, 11] [12, 13, 14, 15, 16, 17, 18, 19, 20] rfl rfl (by decide) (by decide) (fun r5 u5 H locs hp hP hD hS => ?_)
    have hP : va_P G cl [(a47, .inr (10, [.ref a48, .ref a49, .int 0, .int 0, .int 0, .int (-1), .int 0, .int 0, .int 0, .int 0, .long 0, .ref a50, .ref a51, .ref a52, .ref a53, .ref a54, .ref a55, .ref a56, .ref a57, .ref a58, .ref a59, .ref a60, .ref a61, .ref a62, .ref a63, .ref a64, .ref a65, .ref a66, .ref a67, .ref a68, .ref a69, .ref a70, .ref a71, .ref a72, .ref a73, .ref a74, .ref a75, .ref a76, .ref a77, .ref a78, .int 0, .int 0, .ref a79, .ref a80, .int 0, .int 0, .int 0, .int 0, .ref a81, .int 0, .ref a82, .ref a83, .ref a84, .int 0, .int 0, .int 0, .int 0, .int 0, .int 0, .int 0, .int 0, .ref a85, .int 0, .ref a86, .ref a87, .ref a88, .ref a89, .int 0, .int 0])), (a59, .inl (cI, 2, .inl (fun _ => 0))), (a55, .inl (cI, 2, .inl (upd (fun _ => 0) 0 100))), (a54, .inl (cI, 2, .inl (upd (fun _ => 0) 0 100))), (a58, .inl (cI, 4, .inl (upd (upd (fun _ => 0) 0 16) 1 16))), (a57, .inl (cI, 4, .inl (upd (upd (fun _ => 0) 0 16) 1 16))), (a66, .inl (cI, 2, .inl (fun _ => 0))), (a84, .inl (cI, 2, .inl (fun _ => 0))), (a82, .inl (cI, 300000, .inl (fun _ => 0)))] H := hP
    have hD : va_D A [(a47, .inr (10, [.ref a48, .ref a49, .int 0, .int 0, .int 0, .int (-1), .int 0, .int 0, .int 0, .int 0, .long 0, .ref a50, .ref a51, .ref a52, .ref a53, .ref a54, .ref a55, .ref a56, .ref a57, .ref a58, .ref a59, .ref a60, .ref a61, .ref a62, .ref a63, .ref a64, .ref a65, .ref a66, .ref a67, .ref a68, .ref a69, .ref a70, .ref a71, .ref a72, .ref a73, .ref a74, .ref a75, .ref a76, .ref a77, .ref a78, .int 0, .int 0, .ref a79, .ref a80, .int 0, .int 0, .int 0, .int 0, .ref a81, .int 0, .ref a82, .ref a83, .ref a84, .int 0, .int 0, .int 0, .int 0, .int 0, .int 0, .int 0, .int 0, .ref a85, .int 0, .ref a86, .ref a87, .ref a88, .ref a89, .int 0, .int 0])), (a59, .inl (cI, 2, .inl (fun _ => 0))), (a55, .inl (cI, 2, .inl (upd (fun _ => 0) 0 100))), (a54, .inl (cI, 2, .inl (upd (fun _ => 0) 0 100))), (a58, .inl (cI, 4, .inl (upd (upd (fun _ => 0) 0 16) 1 16))), (a57, .inl (cI, 4, .inl (upd (upd (fun _ => 0) 0 16) 1 16))), (a66, .inl (cI, 2, .inl (fun _ => 0))), (a84, .inl (cI, 2, .inl (fun _ => 0))), (a82, .inl (cI, 300000, .inl (fun _ => 0)))] := hD
    have hp5 := hp
    refine lv_aload_n hx hb dL_law_541 rfl (lv_at hl 1 rfl) ?_
    refine lv_aload_n hx hb dL_law_542 rfl (lv_at hl 3 rfl) ?_
    refine lv_iload_n hx hb dL_law_543 rfl (lv_at hl 0 rfl) ?_
    refine lv_iconst (v := 1) hx hb dL_law_544 (by decide) ?_
    refine lv_iadd hx hb dL_law_545 ?_
    refine k_i 1 (by decide +kernel) ?_
    refine va_sld hx hb hX hbl hbA hS (i := 1) (k_in (k := 1) (by decide +kernel) (by decide)) dL_law_546 ?_
    refine k_i (xs 1) (congrArg xs (by decide +kernel)) ?_
    refine lv_aload_n hx hb dL_law_547 rfl (lv_at hl 3 rfl) ?_
    refine lv_iload_n hx hb dL_law_548 rfl (lv_at hl 0 rfl) ?_
    refine lv_iconst (v := 2) hx hb dL_law_549 (by decide) ?_
    refine lv_iadd hx hb dL_law_550 ?_
    refine k_i 2 (by decide +kernel) ?_
    refine va_sld hx hb hX hbl hbA hS (i := 2) (k_in (k := 2) (by decide +kernel) (by decide)) dL_law_551 ?_
    refine k_i (xs 2) (congrArg xs (by decide +kernel)) ?_
    refine lv_if_eq (tgt := 559) hx hb dL_law_552 (by decide) (fun c_6 => by have d_6 : (xs 2).toInt = 0 := (fa_eq _ _).mp c_6; omega) (fun c_6 => ?_)
    have d_6 : (xs 2).toInt ≠ 0 := fa_ne c_6
    refine lv_iconst (v := 1) hx hb dL_law_555 (by decide) ?_
    refine lv_goto (tgt := 560) hx hb dL_law_556 (by decide) ?_
    refine lv_aload_n hx hb dL_law_560 rfl (lv_at hl 3 rfl) ?_
    refine lv_iload_n hx hb dL_law_561 rfl (lv_at hl 0 rfl) ?_
    refine lv_iconst (v := 3) hx hb dL_law_562 (by decide) ?_
    refine lv_iadd hx hb dL_law_563 ?_
    refine k_i 3 (by decide +kernel) ?_
    refine va_sld hx hb hX hbl hbA hS (i := 3) (k_in (k := 3) (by decide +kernel) (by decide)) dL_law_564 ?_
    refine k_i (xs 3) (congrArg xs (by decide +kernel)) ?_
    refine k_ci (wr := []) (k_rV hC hN hK hP hD (c177_X10_span l G cI cJ cB cZ a47 a48 a49 a50 a51 a52 a53 a54 a55 a56 a57 a58 a59 a60 a61 a62 a63 a64 a65 a66 a67 a68 a69 a70 a71 a72 a73 a74 a75 a76 a77 a78 a79 a80 a81 a82 a83 a84 a85 a86 a87 a88 a89 (xs 1) 1 (xs 3)) [0, 1, 2, 3, 4, 5, 6, 7, 8] rfl (by decide) mi_X10_span in_X10_span se_X10_span wm_L_63 10 0 rfl rfl rfl hl.1 rfl rfl (Nat.le_of_ble_eq_true rfl) ⟨(Nat.le_of_ble_eq_true rfl), (Nat.le_of_ble_eq_true rfl)⟩ dL_law_565 ⟨(Nat.le_of_ble_eq_true rfl), (Nat.le_of_ble_eq_true rfl)⟩) hP hD hS hA [0, 1, 2, 3, 4, 5, 6, 7, 8] [] rfl rfl (by decide) (by decide) (fun r7 u7 H locs hp hP hD hS => ?_)
    have hP : va_P G cl [] H := hP
    have hD : va_D A [] := hD
    have hp7 := hp
    refine lv_icmp_eq (tgt := 1428) hx hb dL_law_568 (by decide) (fun _ => ?_) (fun c_ => absurd (hp5.trans hp7.symm) c_)
    exact law_tail hC hr hlk hX hbl hbA hfo hS hl (Nat.le_of_ble_eq_true rfl) (Nat.le_of_ble_eq_true rfl)
set_option maxRecDepth 100000 in
theorem wm_L_64 : Cond.methodLink RL 64 yX9_isFalse ∈ gw := gm (List.mem_of_getElem? (i := 982) (by decide +kernel)) rfl
set_option maxRecDepth 100000 in
theorem mi_X9_isFalse : MI yX9_isFalse cX9_isFalse 4 (some .int) 2 := ⟨gm (List.mem_of_getElem? (i := 985) rfl) rfl, gm (List.mem_of_getElem? (i := 112) (by decide +kernel)) rfl, by decide, by decide, by decide +kernel⟩
set_option maxRecDepth 100000 in
theorem in_X9_isFalse : Cond.instanceMethod yX9_isFalse ∈ gw := gm (List.mem_of_getElem? (i := 983) (by decide +kernel)) rfl
set_option maxRecDepth 100000 in
theorem se_X9_isFalse : Cond.selects yX9_isFalse.cls yX9_isFalse yX9_isFalse ∈ gw := gm (List.mem_of_getElem? (i := 984) (by decide +kernel)) rfl
set_option maxRecDepth 100000 in
theorem wm_L_68 : Cond.methodLink RL 68 yX10_isFalse ∈ gw := gm (List.mem_of_getElem? (i := 1703) (by decide +kernel)) rfl
set_option maxRecDepth 100000 in
theorem mi_X10_isFalse : MI yX10_isFalse cX10_isFalse 5 (some .int) 2 := ⟨gm (List.mem_of_getElem? (i := 1706) rfl) rfl, gm (List.mem_of_getElem? (i := 124) (by decide +kernel)) rfl, by decide, by decide, by decide +kernel⟩
set_option maxRecDepth 100000 in
theorem in_X10_isFalse : Cond.instanceMethod yX10_isFalse ∈ gw := gm (List.mem_of_getElem? (i := 1704) (by decide +kernel)) rfl
set_option maxRecDepth 100000 in
theorem se_X10_isFalse : Cond.selects yX10_isFalse.cls yX10_isFalse yX10_isFalse ∈ gw := gm (List.mem_of_getElem? (i := 1705) (by decide +kernel)) rfl
set_option maxHeartbeats 4000000 in
set_option maxRecDepth 100000 in
theorem law_isFalse {p : Program} {l : Launch} {e : Env} {s : State} {m : MethodId} {below : List Frame} {meth : Method} {c : Code} {b : Nat} {xs : Nat → Int32} {A : Nat → Prop} {H : Heap} {locs : List Loc} {ls : Array Slot} {G : va_G} {cI cJ cB cZ : ClassId} (a0 a1 a2 a3 a4 a5 a6 a7 a8 a9 a10 a11 a12 a13 a14 a15 a16 a17 a18 a19 a20 a21 a22 a23 a24 a25 a26 a27 a28 a29 a30 a31 a32 a33 a34 a35 a36 a37 a38 a39 a40 a41 a42 a43 a44 a45 a46 a47 a48 a49 a50 a51 a52 a53 a54 a55 a56 a57 a58 a59 a60 a61 : Nat) (hC : CallFix p m c code 4 s #[Value.ref b] gw R_law) (hr : meth.sig.returnType = ret) (hlk : meth.locks = false) (hN : NW s) (hK : va_K G cl (TY cI cJ cB cZ) s) (hX : va_X b 6 xs s s.heap) (hbl : b < s.heap.size) (hA : ∀ q, s.heap.size ≤ q → A q) (hbA : ¬ A b) (hfo : ∀ q, A q → s.heap.size ≤ q) (hP : va_P G cl [(a0, .inr (9, [.ref a1, .ref a2, .ref a3, .int 0, .int 0, .ref a4, .ref a5, .ref a6, .ref a7])), (a1, .inr (7, [.int 100, .int 100, .int 0, .ref a8, .ref a9, .int 0, .ref a10, .ref a11, .ref a12, .ref a13, .ref a14, .ref a15, .ref a16, .ref a17, .ref a18])), (a19, .inr (10, [.ref a20, .ref a21, .int 0, .int 0, .int 0, .int (-1), .int 0, .int 0, .int 0, .int 0, .long 0, .ref a22, .ref a23, .ref a24, .ref a25, .ref a26, .ref a27, .ref a28, .ref a29, .ref a30, .ref a31, .ref a32, .ref a33, .ref a34, .ref a35, .ref a36, .ref a37, .ref a38, .ref a39, .ref a40, .ref a41, .ref a42, .ref a43, .ref a44, .ref a45, .ref a46, .ref a47, .ref a48, .ref a49, .ref a50, .int 0, .int 0, .ref a51, .ref a52, .int 0, .int 0, .int 0, .int 0, .ref a53, .int 0, .ref a54, .ref a55, .ref a56, .int 0, .int 0, .int 0, .int 0, .int 0, .int 0, .int 0, .int 0, .ref a57, .int 0, .ref a58, .ref a59, .ref a60, .ref a61, .int 0, .int 0])), (a31, .inl (cI, 2, .inl (fun _ => 0)))] H) (hD : va_D A [(a0, .inr (9, [.ref a1, .ref a2, .ref a3, .int 0, .int 0, .ref a4, .ref a5, .ref a6, .ref a7])), (a1, .inr (7, [.int 100, .int 100, .int 0, .ref a8, .ref a9, .int 0, .ref a10, .ref a11, .ref a12, .ref a13, .ref a14, .ref a15, .ref a16, .ref a17, .ref a18])), (a19, .inr (10, [.ref a20, .ref a21, .int 0, .int 0, .int 0, .int (-1), .int 0, .int 0, .int 0, .int 0, .long 0, .ref a22, .ref a23, .ref a24, .ref a25, .ref a26, .ref a27, .ref a28, .ref a29, .ref a30, .ref a31, .ref a32, .ref a33, .ref a34, .ref a35, .ref a36, .ref a37, .ref a38, .ref a39, .ref a40, .ref a41, .ref a42, .ref a43, .ref a44, .ref a45, .ref a46, .ref a47, .ref a48, .ref a49, .ref a50, .int 0, .int 0, .ref a51, .ref a52, .int 0, .int 0, .int 0, .int 0, .ref a53, .int 0, .ref a54, .ref a55, .ref a56, .int 0, .int 0, .int 0, .int 0, .int 0, .int 0, .int 0, .int 0, .ref a57, .int 0, .ref a58, .ref a59, .ref a60, .ref a61, .int 0, .int 0])), (a31, .inl (cI, 2, .inl (fun _ => 0)))]) (hS : va_S A s.heap H locs) (hl : lv_has ls 4 [(3, .int 0), (2, .ref a19), (1, .ref a0), (0, .ref b)]) : W p l e room_1 s m #[Value.ref b] below meth c H locs 1000 1000000 (lw_Z below #[Value.ref b] s) (F0 m 573 ls []) := by
  obtain ⟨hx, hb, hml, hown, hts⟩ := id hC
  refine lv_aload_n hx hb dL_law_573 rfl (lv_at hl 2 rfl) ?_
  refine lv_aload_n hx hb dL_law_574 rfl (lv_at hl 3 rfl) ?_
  refine lv_iload_n hx hb dL_law_575 rfl (lv_at hl 0 rfl) ?_
  refine lv_iconst (v := 1) hx hb dL_law_576 (by decide) ?_
  refine lv_iadd hx hb dL_law_577 ?_
  refine k_i 1 (by decide +kernel) ?_
  refine va_sld hx hb hX hbl hbA hS (i := 1) (k_in (k := 1) (by decide +kernel) (by decide)) dL_law_578 ?_
  refine k_i (xs 1) (congrArg xs (by decide +kernel)) ?_
  refine lv_aload_n hx hb dL_law_579 rfl (lv_at hl 3 rfl) ?_
  refine lv_iload_n hx hb dL_law_580 rfl (lv_at hl 0 rfl) ?_
  refine lv_iconst (v := 2) hx hb dL_law_581 (by decide) ?_
  refine lv_iadd hx hb dL_law_582 ?_
  refine k_i 2 (by decide +kernel) ?_
  refine va_sld hx hb hX hbl hbA hS (i := 2) (k_in (k := 2) (by decide +kernel) (by decide)) dL_law_583 ?_
  refine k_i (xs 2) (congrArg xs (by decide +kernel)) ?_
  refine k_ci (wr := [(a19, .inr (10, [.ref a20, .ref a21, .int 0, .int 0, .int 0, .int (-1), .int 0, .int 0, .int 0, .int 0, .long 0, .ref a22, .ref a23, .ref a24, .ref a25, .ref a26, .ref a27, .ref a28, .ref a29, .ref a30, .ref a31, .ref a32, .ref a33, .ref a34, .ref a35, .ref a36, .ref a37, .ref a38, .ref a39, .ref a40, .ref a41, .ref a42, .ref a43, .ref a44, .ref a45, .ref a46, .ref a47, .ref a48, .ref a49, .ref a50, .int 0, .int 0, .ref a51, .ref a52, .int 0, .int 0, .int 0, .int 0, .ref a53, .int 0, .ref a54, .ref a55, .ref a56, .int 0, .int 0, .int 0, .int 0, .int 0, .int 0, .int 0, .int 0, .ref a57, .int 0, .ref a58, .ref a59, .ref a60, .ref a61, .int 0, .int 0])), (a31, .inl (cI, 2, .inl (fun _ => 0)))]) (k_rV hC hN hK hP hD (c88_X9_isFalse l G cI cJ cB cZ a0 a1 a2 a3 a4 a5 a6 a7 a8 a9 a10 a11 a12 a13 a14 a15 a16 a17 a18 (xs 1) (xs 2)) [0, 1] rfl (by decide) mi_X9_isFalse in_X9_isFalse se_X9_isFalse wm_L_64 9 0 rfl rfl rfl hl.1 rfl rfl (Nat.le_of_ble_eq_true rfl) ⟨(Nat.le_of_ble_eq_true rfl), (Nat.le_of_ble_eq_true rfl)⟩ dL_law_584 ⟨(Nat.le_of_ble_eq_true rfl), (Nat.le_of_ble_eq_true rfl)⟩) hP hD hS hA [0, 1] [2, 3] rfl rfl (by decide) (by decide) (fun r1 u1 H locs hp hP hD hS => ?_)
  have hP : va_P G cl [(a19, .inr (10, [.ref a20, .ref a21, .int 0, .int 0, .int 0, .int (-1), .int 0, .int 0, .int 0, .int 0, .long 0, .ref a22, .ref a23, .ref a24, .ref a25, .ref a26, .ref a27, .ref a28, .ref a29, .ref a30, .ref a31, .ref a32, .ref a33, .ref a34, .ref a35, .ref a36, .ref a37, .ref a38, .ref a39, .ref a40, .ref a41, .ref a42, .ref a43, .ref a44, .ref a45, .ref a46, .ref a47, .ref a48, .ref a49, .ref a50, .int 0, .int 0, .ref a51, .ref a52, .int 0, .int 0, .int 0, .int 0, .ref a53, .int 0, .ref a54, .ref a55, .ref a56, .int 0, .int 0, .int 0, .int 0, .int 0, .int 0, .int 0, .int 0, .ref a57, .int 0, .ref a58, .ref a59, .ref a60, .ref a61, .int 0, .int 0])), (a31, .inl (cI, 2, .inl (fun _ => 0)))] H := hP
  have hD : va_D A [(a19, .inr (10, [.ref a20, .ref a21, .int 0, .int 0, .int 0, .int (-1), .int 0, .int 0, .int 0, .int 0, .long 0, .ref a22, .ref a23, .ref a24, .ref a25, .ref a26, .ref a27, .ref a28, .ref a29, .ref a30, .ref a31, .ref a32, .ref a33, .ref a34, .ref a35, .ref a36, .ref a37, .ref a38, .ref a39, .ref a40, .ref a41, .ref a42, .ref a43, .ref a44, .ref a45, .ref a46, .ref a47, .ref a48, .ref a49, .ref a50, .int 0, .int 0, .ref a51, .ref a52, .int 0, .int 0, .int 0, .int 0, .ref a53, .int 0, .ref a54, .ref a55, .ref a56, .int 0, .int 0, .int 0, .int 0, .int 0, .int 0, .int 0, .int 0, .ref a57, .int 0, .ref a58, .ref a59, .ref a60, .ref a61, .int 0, .int 0])), (a31, .inl (cI, 2, .inl (fun _ => 0)))] := hD
  subst hp
  refine lv_aload_n hx hb dL_law_587 rfl (lv_at hl 1 rfl) ?_
  refine lv_aload_n hx hb dL_law_588 rfl (lv_at hl 3 rfl) ?_
  refine lv_iload_n hx hb dL_law_589 rfl (lv_at hl 0 rfl) ?_
  refine lv_iconst (v := 1) hx hb dL_law_590 (by decide) ?_
  refine lv_iadd hx hb dL_law_591 ?_
  refine k_i 1 (by decide +kernel) ?_
  refine va_sld hx hb hX hbl hbA hS (i := 1) (k_in (k := 1) (by decide +kernel) (by decide)) dL_law_592 ?_
  refine k_i (xs 1) (congrArg xs (by decide +kernel)) ?_
  refine lv_aload_n hx hb dL_law_593 rfl (lv_at hl 3 rfl) ?_
  refine lv_iload_n hx hb dL_law_594 rfl (lv_at hl 0 rfl) ?_
  refine lv_iconst (v := 2) hx hb dL_law_595 (by decide) ?_
  refine lv_iadd hx hb dL_law_596 ?_
  refine k_i 2 (by decide +kernel) ?_
  refine va_sld hx hb hX hbl hbA hS (i := 2) (k_in (k := 2) (by decide +kernel) (by decide)) dL_law_597 ?_
  refine k_i (xs 2) (congrArg xs (by decide +kernel)) ?_
  refine k_ci (wr := []) (k_rV hC hN hK hP hD (c179_X10_isFalse l G cI cJ cB cZ a19 a20 a21 a22 a23 a24 a25 a26 a27 a28 a29 a30 a31 a32 a33 a34 a35 a36 a37 a38 a39 a40 a41 a42 a43 a44 a45 a46 a47 a48 a49 a50 a51 a52 a53 a54 a55 a56 a57 a58 a59 a60 a61 (xs 1) (xs 2)) [0, 1] rfl (by decide) mi_X10_isFalse in_X10_isFalse se_X10_isFalse wm_L_68 10 0 rfl rfl rfl hl.1 rfl rfl (Nat.le_of_ble_eq_true rfl) ⟨(Nat.le_of_ble_eq_true rfl), (Nat.le_of_ble_eq_true rfl)⟩ dL_law_598 ⟨(Nat.le_of_ble_eq_true rfl), (Nat.le_of_ble_eq_true rfl)⟩) hP hD hS hA [0, 1] [] rfl rfl (by decide) (by decide) (fun r2 u2 H locs hp hP hD hS => ?_)
  have hP : va_P G cl [] H := hP
  have hD : va_D A [] := hD
  subst hp
  refine lv_icmp_eq (tgt := 1428) hx hb dL_law_601 (by decide) (fun _ => ?_) (fun c_ => absurd (by decide +kernel) c_)
  exact law_tail hC hr hlk hX hbl hbA hfo hS hl (Nat.le_of_ble_eq_true rfl) (Nat.le_of_ble_eq_true rfl)
set_option maxRecDepth 100000 in
theorem wm_L_69 : Cond.methodLink RL 69 yX9_fewest ∈ gw := gm (List.mem_of_getElem? (i := 1002) (by decide +kernel)) rfl
set_option maxRecDepth 100000 in
theorem mi_X9_fewest : MI yX9_fewest cX9_fewest 3 (some .int) 1 := ⟨gm (List.mem_of_getElem? (i := 1005) rfl) rfl, gm (List.mem_of_getElem? (i := 112) (by decide +kernel)) rfl, by decide, by decide, by decide +kernel⟩
set_option maxRecDepth 100000 in
theorem in_X9_fewest : Cond.instanceMethod yX9_fewest ∈ gw := gm (List.mem_of_getElem? (i := 1003) (by decide +kernel)) rfl
set_option maxRecDepth 100000 in
theorem se_X9_fewest : Cond.selects yX9_fewest.cls yX9_fewest yX9_fewest ∈ gw := gm (List.mem_of_getElem? (i := 1004) (by decide +kernel)) rfl
set_option maxRecDepth 100000 in
theorem wm_L_72 : Cond.methodLink RL 72 yX10_fewest ∈ gw := gm (List.mem_of_getElem? (i := 1715) (by decide +kernel)) rfl
set_option maxRecDepth 100000 in
theorem mi_X10_fewest : MI yX10_fewest cX10_fewest 2 (some .int) 1 := ⟨gm (List.mem_of_getElem? (i := 1718) rfl) rfl, gm (List.mem_of_getElem? (i := 124) (by decide +kernel)) rfl, by decide, by decide, by decide +kernel⟩
set_option maxRecDepth 100000 in
theorem in_X10_fewest : Cond.instanceMethod yX10_fewest ∈ gw := gm (List.mem_of_getElem? (i := 1716) (by decide +kernel)) rfl
set_option maxRecDepth 100000 in
theorem se_X10_fewest : Cond.selects yX10_fewest.cls yX10_fewest yX10_fewest ∈ gw := gm (List.mem_of_getElem? (i := 1717) (by decide +kernel)) rfl
set_option maxHeartbeats 4000000 in
set_option maxRecDepth 100000 in
theorem law_fewest {p : Program} {l : Launch} {e : Env} {s : State} {m : MethodId} {below : List Frame} {meth : Method} {c : Code} {b : Nat} {xs : Nat → Int32} {A : Nat → Prop} {H : Heap} {locs : List Loc} {ls : Array Slot} {G : va_G} {cI cJ cB cZ : ClassId} (a0 a1 a2 a3 a4 a5 a6 a7 a8 a9 a10 a11 a12 a13 a14 a15 a16 a17 a18 a19 a20 a21 a22 a23 a24 a25 a26 a27 a28 a29 a30 a31 a32 a33 a34 a35 a36 a37 a38 a39 a40 a41 a42 a43 a44 a45 a46 a47 a48 a49 a50 a51 a52 a53 a54 a55 a56 a57 a58 a59 a60 a61 a62 a63 a64 a65 a66 a67 a68 a69 a70 a71 a72 a73 a74 a75 a76 a77 a78 a79 a80 a81 a82 a83 a84 a85 a86 a87 a88 a89 : Nat) (hC : CallFix p m c code 4 s #[Value.ref b] gw R_law) (hr : meth.sig.returnType = ret) (hlk : meth.locks = false) (hN : NW s) (hK : va_K G cl (TY cI cJ cB cZ) s) (hX : va_X b 6 xs s s.heap) (hbl : b < s.heap.size) (hA : ∀ q, s.heap.size ≤ q → A q) (hbA : ¬ A b) (hfo : ∀ q, A q → s.heap.size ≤ q) (hP : va_P G cl [(a0, .inr (9, [.ref a1, .ref a2, .ref a3, .int 0, .int 0, .ref a4, .ref a5, .ref a6, .ref a7])), (a1, .inr (7, [.int 100, .int 100, .int 0, .ref a8, .ref a9, .int 0, .ref a10, .ref a11, .ref a12, .ref a13, .ref a14, .ref a15, .ref a16, .ref a17, .ref a18])), (a9, .inl (cI, 2, .inl (upd (upd (fun _ => 0) 0 16) 1 16))), (a8, .inl (cI, 2, .inl (upd (upd (fun _ => 0) 0 16) 1 16))), (a17, .inr (8, [.ref a19, .ref a20, .ref a21, .ref a22, .ref a23, .ref a24, .ref a25, .int 0])), (a3, .inr (8, [.ref a26, .ref a27, .ref a28, .ref a29, .ref a30, .ref a31, .ref a32, .int 0])), (a5, .inr (0, [.ref a33, .int 0, .int 0, .long 0, .int 0, .int 0, .long 0])), (a4, .inr (4, [.ref a34, .ref a5, .ref a35, .ref a36, .ref a37, .ref a38, .ref a39, .int 100, .int 0, .int 0, .int (-1)])), (a35, .inr (8, [.ref a40, .ref a41, .ref a42, .ref a43, .ref a44, .ref a45, .ref a46, .int 0])), (a36, .inl (cI, 7, .inl (fun _ => 0))), (a33, .inl (cJ, 256, .inr (.inl (fun _ => 0)))), (a47, .inr (10, [.ref a48, .ref a49, .int 0, .int 0, .int 0, .int (-1), .int 0, .int 0, .int 0, .int 0, .long 0, .ref a50, .ref a51, .ref a52, .ref a53, .ref a54, .ref a55, .ref a56, .ref a57, .ref a58, .ref a59, .ref a60, .ref a61, .ref a62, .ref a63, .ref a64, .ref a65, .ref a66, .ref a67, .ref a68, .ref a69, .ref a70, .ref a71, .ref a72, .ref a73, .ref a74, .ref a75, .ref a76, .ref a77, .ref a78, .int 0, .int 0, .ref a79, .ref a80, .int 0, .int 0, .int 0, .int 0, .ref a81, .int 0, .ref a82, .ref a83, .ref a84, .int 0, .int 0, .int 0, .int 0, .int 0, .int 0, .int 0, .int 0, .ref a85, .int 0, .ref a86, .ref a87, .ref a88, .ref a89, .int 0, .int 0])), (a55, .inl (cI, 2, .inl (upd (fun _ => 0) 0 100))), (a54, .inl (cI, 2, .inl (upd (fun _ => 0) 0 100))), (a58, .inl (cI, 4, .inl (upd (upd (fun _ => 0) 0 16) 1 16))), (a57, .inl (cI, 4, .inl (upd (upd (fun _ => 0) 0 16) 1 16))), (a59, .inl (cI, 2, .inl (fun _ => 0))), (a66, .inl (cI, 2, .inl (fun _ => 0))), (a84, .inl (cI, 2, .inl (fun _ => 0))), (a82, .inl (cI, 300000, .inl (fun _ => 0))), (a85, .inl (cZ, 64, .inl (fun _ => 0)))] H) (hD : va_D A [(a0, .inr (9, [.ref a1, .ref a2, .ref a3, .int 0, .int 0, .ref a4, .ref a5, .ref a6, .ref a7])), (a1, .inr (7, [.int 100, .int 100, .int 0, .ref a8, .ref a9, .int 0, .ref a10, .ref a11, .ref a12, .ref a13, .ref a14, .ref a15, .ref a16, .ref a17, .ref a18])), (a9, .inl (cI, 2, .inl (upd (upd (fun _ => 0) 0 16) 1 16))), (a8, .inl (cI, 2, .inl (upd (upd (fun _ => 0) 0 16) 1 16))), (a17, .inr (8, [.ref a19, .ref a20, .ref a21, .ref a22, .ref a23, .ref a24, .ref a25, .int 0])), (a3, .inr (8, [.ref a26, .ref a27, .ref a28, .ref a29, .ref a30, .ref a31, .ref a32, .int 0])), (a5, .inr (0, [.ref a33, .int 0, .int 0, .long 0, .int 0, .int 0, .long 0])), (a4, .inr (4, [.ref a34, .ref a5, .ref a35, .ref a36, .ref a37, .ref a38, .ref a39, .int 100, .int 0, .int 0, .int (-1)])), (a35, .inr (8, [.ref a40, .ref a41, .ref a42, .ref a43, .ref a44, .ref a45, .ref a46, .int 0])), (a36, .inl (cI, 7, .inl (fun _ => 0))), (a33, .inl (cJ, 256, .inr (.inl (fun _ => 0)))), (a47, .inr (10, [.ref a48, .ref a49, .int 0, .int 0, .int 0, .int (-1), .int 0, .int 0, .int 0, .int 0, .long 0, .ref a50, .ref a51, .ref a52, .ref a53, .ref a54, .ref a55, .ref a56, .ref a57, .ref a58, .ref a59, .ref a60, .ref a61, .ref a62, .ref a63, .ref a64, .ref a65, .ref a66, .ref a67, .ref a68, .ref a69, .ref a70, .ref a71, .ref a72, .ref a73, .ref a74, .ref a75, .ref a76, .ref a77, .ref a78, .int 0, .int 0, .ref a79, .ref a80, .int 0, .int 0, .int 0, .int 0, .ref a81, .int 0, .ref a82, .ref a83, .ref a84, .int 0, .int 0, .int 0, .int 0, .int 0, .int 0, .int 0, .int 0, .ref a85, .int 0, .ref a86, .ref a87, .ref a88, .ref a89, .int 0, .int 0])), (a55, .inl (cI, 2, .inl (upd (fun _ => 0) 0 100))), (a54, .inl (cI, 2, .inl (upd (fun _ => 0) 0 100))), (a58, .inl (cI, 4, .inl (upd (upd (fun _ => 0) 0 16) 1 16))), (a57, .inl (cI, 4, .inl (upd (upd (fun _ => 0) 0 16) 1 16))), (a59, .inl (cI, 2, .inl (fun _ => 0))), (a66, .inl (cI, 2, .inl (fun _ => 0))), (a84, .inl (cI, 2, .inl (fun _ => 0))), (a82, .inl (cI, 300000, .inl (fun _ => 0))), (a85, .inl (cZ, 64, .inl (fun _ => 0)))]) (hS : va_S A s.heap H locs) (hl : lv_has ls 4 [(3, .int 0), (2, .ref a47), (1, .ref a0), (0, .ref b)]) : W p l e room_1 s m #[Value.ref b] below meth c H locs 1000 1000000 (lw_Z below #[Value.ref b] s) (F0 m 606 ls []) := by
  obtain ⟨hx, hb, hml, hown, hts⟩ := id hC
  refine lv_aload_n hx hb dL_law_606 rfl (lv_at hl 2 rfl) ?_
  refine lv_aload_n hx hb dL_law_607 rfl (lv_at hl 3 rfl) ?_
  refine lv_iload_n hx hb dL_law_608 rfl (lv_at hl 0 rfl) ?_
  refine lv_iconst (v := 1) hx hb dL_law_609 (by decide) ?_
  refine lv_iadd hx hb dL_law_610 ?_
  refine k_i 1 (by decide +kernel) ?_
  refine va_sld hx hb hX hbl hbA hS (i := 1) (k_in (k := 1) (by decide +kernel) (by decide)) dL_law_611 ?_
  refine k_i (xs 1) (congrArg xs (by decide +kernel)) ?_
  refine k_ci (wr := [(a47, .inr (10, [.ref a48, .ref a49, .int 0, .int 0, .int 0, .int (-1), .int 0, .int 0, .int 0, .int 0, .long 0, .ref a50, .ref a51, .ref a52, .ref a53, .ref a54, .ref a55, .ref a56, .ref a57, .ref a58, .ref a59, .ref a60, .ref a61, .ref a62, .ref a63, .ref a64, .ref a65, .ref a66, .ref a67, .ref a68, .ref a69, .ref a70, .ref a71, .ref a72, .ref a73, .ref a74, .ref a75, .ref a76, .ref a77, .ref a78, .int 0, .int 0, .ref a79, .ref a80, .int 0, .int 0, .int 0, .int 0, .ref a81, .int 0, .ref a82, .ref a83, .ref a84, .int 0, .int 0, .int 0, .int 0, .int 0, .int 0, .int 0, .int 0, .ref a85, .int 0, .ref a86, .ref a87, .ref a88, .ref a89, .int 0, .int 0])), (a55, .inl (cI, 2, .inl (upd (fun _ => 0) 0 100))), (a54, .inl (cI, 2, .inl (upd (fun _ => 0) 0 100))), (a58, .inl (cI, 4, .inl (upd (upd (fun _ => 0) 0 16) 1 16))), (a57, .inl (cI, 4, .inl (upd (upd (fun _ => 0) 0 16) 1 16))), (a59, .inl (cI, 2, .inl (fun _ => 0))), (a66, .inl (cI, 2, .inl (fun _ => 0))), (a84, .inl (cI, 2, .inl (fun _ => 0))), (a82, .inl (cI, 300000, .inl (fun _ => 0))), (a85, .inl (cZ, 64, .inl (fun _ => 0)))]) (k_rV hC hN hK hP hD (c93_X9_fewest l G cI cJ cB cZ a0 a1 a2 a3 a4 a5 a6 a7 a8 a9 a10 a11 a12 a13 a14 a15 a16 a17 a18 a19 a20 a21 a22 a23 a24 a25 a26 a27 a28 a29 a30 a31 a32 a33 a34 a35 a36 a37 a38 a39 a40 a41 a42 a43 a44 a45 a46 (xs 1)) [0, 1, 2, 3, 4, 5, 6, 7, 8, 9, 10] rfl (by decide) mi_X9_fewest in_X9_fewest se_X9_fewest wm_L_69 9 0 rfl rfl rfl hl.1 rfl rfl (Nat.le_of_ble_eq_true rfl) ⟨(Nat.le_of_ble_eq_true rfl), (Nat.le_of_ble_eq_true rfl)⟩ dL_law_612 ⟨(Nat.le_of_ble_eq_true rfl), (Nat.le_of_ble_eq_true rfl)⟩) hP hD hS hA [0, 1, 2, 3, 4, 5, 6, 7, 8, 9, 10] [11, 12, 13, 14, 15, 16, 17, 18, 19, 20] rfl rfl (by decide) (by decide) (fun r1 u1 H locs hp hP hD hS => ?_)
  have hP : va_P G cl [(a47, .inr (10, [.ref a48, .ref a49, .int 0, .int 0, .int 0, .int (-1), .int 0, .int 0, .int 0, .int 0, .long 0, .ref a50, .ref a51, .ref a52, .ref a53, .ref a54, .ref a55, .ref a56, .ref a57, .ref a58, .ref a59, .ref a60, .ref a61, .ref a62, .ref a63, .ref a64, .ref a65, .ref a66, .ref a67, .ref a68, .ref a69, .ref a70, .ref a71, .ref a72, .ref a73, .ref a74, .ref a75, .ref a76, .ref a77, .ref a78, .int 0, .int 0, .ref a79, .ref a80, .int 0, .int 0, .int 0, .int 0, .ref a81, .int 0, .ref a82, .ref a83, .ref a84, .int 0, .int 0, .int 0, .int 0, .int 0, .int 0, .int 0, .int 0, .ref a85, .int 0, .ref a86, .ref a87, .ref a88, .ref a89, .int 0, .int 0])), (a55, .inl (cI, 2, .inl (upd (fun _ => 0) 0 100))), (a54, .inl (cI, 2, .inl (upd (fun _ => 0) 0 100))), (a58, .inl (cI, 4, .inl (upd (upd (fun _ => 0) 0 16) 1 16))), (a57, .inl (cI, 4, .inl (upd (upd (fun _ => 0) 0 16) 1 16))), (a59, .inl (cI, 2, .inl (fun _ => 0))), (a66, .inl (cI, 2, .inl (fun _ => 0))), (a84, .inl (cI, 2, .inl (fun _ => 0))), (a82, .inl (cI, 300000, .inl (fun _ => 0))), (a85, .inl (cZ, 64, .inl (fun _ => 0)))] H := hP
  have hD : va_D A [(a47, .inr (10, [.ref a48, .ref a49, .int 0, .int 0, .int 0, .int (-1), .int 0, .int 0, .int 0, .int 0, .long 0, .ref a50, .ref a51, .ref a52, .ref a53, .ref a54, .ref a55, .ref a56, .ref a57, .ref a58, .ref a59, .ref a60, .ref a61, .ref a62, .ref a63, .ref a64, .ref a65, .ref a66, .ref a67, .ref a68, .ref a69, .ref a70, .ref a71, .ref a72, .ref a73, .ref a74, .ref a75, .ref a76, .ref a77, .ref a78, .int 0, .int 0, .ref a79, .ref a80, .int 0, .int 0, .int 0, .int 0, .ref a81, .int 0, .ref a82, .ref a83, .ref a84, .int 0, .int 0, .int 0, .int 0, .int 0, .int 0, .int 0, .int 0, .ref a85, .int 0, .ref a86, .ref a87, .ref a88, .ref a89, .int 0, .int 0])), (a55, .inl (cI, 2, .inl (upd (fun _ => 0) 0 100))), (a54, .inl (cI, 2, .inl (upd (fun _ => 0) 0 100))), (a58, .inl (cI, 4, .inl (upd (upd (fun _ => 0) 0 16) 1 16))), (a57, .inl (cI, 4, .inl (upd (upd (fun _ => 0) 0 16) 1 16))), (a59, .inl (cI, 2, .inl (fun _ => 0))), (a66, .inl (cI, 2, .inl (fun _ => 0))), (a84, .inl (cI, 2, .inl (fun _ => 0))), (a82, .inl (cI, 300000, .inl (fun _ => 0))), (a85, .inl (cZ, 64, .inl (fun _ => 0)))] := hD
  subst hp
  refine lv_aload_n hx hb dL_law_615 rfl (lv_at hl 1 rfl) ?_
  refine lv_aload_n hx hb dL_law_616 rfl (lv_at hl 3 rfl) ?_
  refine lv_iload_n hx hb dL_law_617 rfl (lv_at hl 0 rfl) ?_
  refine lv_iconst (v := 1) hx hb dL_law_618 (by decide) ?_
  refine lv_iadd hx hb dL_law_619 ?_
  refine k_i 1 (by decide +kernel) ?_
  refine va_sld hx hb hX hbl hbA hS (i := 1) (k_in (k := 1) (by decide +kernel) (by decide)) dL_law_620 ?_
  refine k_i (xs 1) (congrArg xs (by decide +kernel)) ?_
  refine k_ci (wr := []) (k_rV hC hN hK hP hD (c188_X10_fewest l G cI cJ cB cZ a47 a48 a49 a50 a51 a52 a53 a54 a55 a56 a57 a58 a59 a60 a61 a62 a63 a64 a65 a66 a67 a68 a69 a70 a71 a72 a73 a74 a75 a76 a77 a78 a79 a80 a81 a82 a83 a84 a85 a86 a87 a88 a89 (xs 1)) [0, 1, 2, 3, 4, 5, 6, 7, 8, 9] rfl (by decide) mi_X10_fewest in_X10_fewest se_X10_fewest wm_L_72 10 0 rfl rfl rfl hl.1 rfl rfl (Nat.le_of_ble_eq_true rfl) ⟨(Nat.le_of_ble_eq_true rfl), (Nat.le_of_ble_eq_true rfl)⟩ dL_law_621 ⟨(Nat.le_of_ble_eq_true rfl), (Nat.le_of_ble_eq_true rfl)⟩) hP hD hS hA [0, 1, 2, 3, 4, 5, 6, 7, 8, 9] [] rfl rfl (by decide) (by decide) (fun r2 u2 H locs hp hP hD hS => ?_)
  have hP : va_P G cl [] H := hP
  have hD : va_D A [] := hD
  subst hp
  refine lv_icmp_eq (tgt := 1428) hx hb dL_law_624 (by decide) (fun _ => ?_) (fun c_ => absurd (by decide +kernel) c_)
  exact law_tail hC hr hlk hX hbl hbA hfo hS hl (Nat.le_of_ble_eq_true rfl) (Nat.le_of_ble_eq_true rfl)
set_option maxRecDepth 100000 in
theorem wm_L_73 : Cond.methodLink RL 73 yX9_sets ∈ gw := gm (List.mem_of_getElem? (i := 1011) (by decide +kernel)) rfl
set_option maxRecDepth 100000 in
theorem mi_X9_sets : MI yX9_sets cX9_sets 3 (some .int) 1 := ⟨gm (List.mem_of_getElem? (i := 1014) rfl) rfl, gm (List.mem_of_getElem? (i := 112) (by decide +kernel)) rfl, by decide, by decide, by decide +kernel⟩
set_option maxRecDepth 100000 in
theorem in_X9_sets : Cond.instanceMethod yX9_sets ∈ gw := gm (List.mem_of_getElem? (i := 1012) (by decide +kernel)) rfl
set_option maxRecDepth 100000 in
theorem se_X9_sets : Cond.selects yX9_sets.cls yX9_sets yX9_sets ∈ gw := gm (List.mem_of_getElem? (i := 1013) (by decide +kernel)) rfl
set_option maxRecDepth 100000 in
theorem wm_L_76 : Cond.methodLink RL 76 yX10_sets ∈ gw := gm (List.mem_of_getElem? (i := 1726) (by decide +kernel)) rfl
set_option maxRecDepth 100000 in
theorem mi_X10_sets : MI yX10_sets cX10_sets 4 (some .int) 1 := ⟨gm (List.mem_of_getElem? (i := 1729) rfl) rfl, gm (List.mem_of_getElem? (i := 124) (by decide +kernel)) rfl, by decide, by decide, by decide +kernel⟩
set_option maxRecDepth 100000 in
theorem in_X10_sets : Cond.instanceMethod yX10_sets ∈ gw := gm (List.mem_of_getElem? (i := 1727) (by decide +kernel)) rfl
set_option maxRecDepth 100000 in
theorem se_X10_sets : Cond.selects yX10_sets.cls yX10_sets yX10_sets ∈ gw := gm (List.mem_of_getElem? (i := 1728) (by decide +kernel)) rfl
set_option maxHeartbeats 4000000 in
set_option maxRecDepth 100000 in
theorem law_sets {p : Program} {l : Launch} {e : Env} {s : State} {m : MethodId} {below : List Frame} {meth : Method} {c : Code} {b : Nat} {xs : Nat → Int32} {A : Nat → Prop} {H : Heap} {locs : List Loc} {ls : Array Slot} {G : va_G} {cI cJ cB cZ : ClassId} (a0 a1 a2 a3 a4 a5 a6 a7 a8 a9 a10 a11 a12 a13 a14 a15 a16 a17 a18 a19 a20 a21 a22 a23 a24 a25 a26 a27 a28 a29 a30 a31 a32 a33 a34 a35 a36 a37 a38 a39 a40 a41 a42 a43 a44 a45 a46 a47 a48 a49 a50 a51 a52 a53 a54 a55 a56 a57 a58 a59 a60 a61 a62 a63 a64 a65 a66 a67 a68 a69 a70 a71 a72 a73 a74 a75 a76 a77 a78 a79 a80 a81 a82 a83 a84 a85 a86 a87 a88 a89 : Nat) (hC : CallFix p m c code 4 s #[Value.ref b] gw R_law) (hr : meth.sig.returnType = ret) (hlk : meth.locks = false) (hN : NW s) (hK : va_K G cl (TY cI cJ cB cZ) s) (hX : va_X b 6 xs s s.heap) (hbl : b < s.heap.size) (hA : ∀ q, s.heap.size ≤ q → A q) (hbA : ¬ A b) (hfo : ∀ q, A q → s.heap.size ≤ q) (hP : va_P G cl [(a0, .inr (9, [.ref a1, .ref a2, .ref a3, .int 0, .int 0, .ref a4, .ref a5, .ref a6, .ref a7])), (a1, .inr (7, [.int 100, .int 100, .int 0, .ref a8, .ref a9, .int 0, .ref a10, .ref a11, .ref a12, .ref a13, .ref a14, .ref a15, .ref a16, .ref a17, .ref a18])), (a9, .inl (cI, 2, .inl (upd (upd (fun _ => 0) 0 16) 1 16))), (a8, .inl (cI, 2, .inl (upd (upd (fun _ => 0) 0 16) 1 16))), (a17, .inr (8, [.ref a19, .ref a20, .ref a21, .ref a22, .ref a23, .ref a24, .ref a25, .int 0])), (a3, .inr (8, [.ref a26, .ref a27, .ref a28, .ref a29, .ref a30, .ref a31, .ref a32, .int 0])), (a5, .inr (0, [.ref a33, .int 0, .int 0, .long 0, .int 0, .int 0, .long 0])), (a4, .inr (4, [.ref a34, .ref a5, .ref a35, .ref a36, .ref a37, .ref a38, .ref a39, .int 100, .int 0, .int 0, .int (-1)])), (a35, .inr (8, [.ref a40, .ref a41, .ref a42, .ref a43, .ref a44, .ref a45, .ref a46, .int 0])), (a36, .inl (cI, 7, .inl (fun _ => 0))), (a33, .inl (cJ, 256, .inr (.inl (fun _ => 0)))), (a47, .inr (10, [.ref a48, .ref a49, .int 0, .int 0, .int 0, .int (-1), .int 0, .int 0, .int 0, .int 0, .long 0, .ref a50, .ref a51, .ref a52, .ref a53, .ref a54, .ref a55, .ref a56, .ref a57, .ref a58, .ref a59, .ref a60, .ref a61, .ref a62, .ref a63, .ref a64, .ref a65, .ref a66, .ref a67, .ref a68, .ref a69, .ref a70, .ref a71, .ref a72, .ref a73, .ref a74, .ref a75, .ref a76, .ref a77, .ref a78, .int 0, .int 0, .ref a79, .ref a80, .int 0, .int 0, .int 0, .int 0, .ref a81, .int 0, .ref a82, .ref a83, .ref a84, .int 0, .int 0, .int 0, .int 0, .int 0, .int 0, .int 0, .int 0, .ref a85, .int 0, .ref a86, .ref a87, .ref a88, .ref a89, .int 0, .int 0])), (a55, .inl (cI, 2, .inl (upd (fun _ => 0) 0 100))), (a54, .inl (cI, 2, .inl (upd (fun _ => 0) 0 100))), (a58, .inl (cI, 4, .inl (upd (upd (fun _ => 0) 0 16) 1 16))), (a57, .inl (cI, 4, .inl (upd (upd (fun _ => 0) 0 16) 1 16))), (a59, .inl (cI, 2, .inl (fun _ => 0))), (a66, .inl (cI, 2, .inl (fun _ => 0))), (a84, .inl (cI, 2, .inl (fun _ => 0))), (a82, .inl (cI, 300000, .inl (fun _ => 0))), (a85, .inl (cZ, 64, .inl (fun _ => 0)))] H) (hD : va_D A [(a0, .inr (9, [.ref a1, .ref a2, .ref a3, .int 0, .int 0, .ref a4, .ref a5, .ref a6, .ref a7])), (a1, .inr (7, [.int 100, .int 100, .int 0, .ref a8, .ref a9, .int 0, .ref a10, .ref a11, .ref a12, .ref a13, .ref a14, .ref a15, .ref a16, .ref a17, .ref a18])), (a9, .inl (cI, 2, .inl (upd (upd (fun _ => 0) 0 16) 1 16))), (a8, .inl (cI, 2, .inl (upd (upd (fun _ => 0) 0 16) 1 16))), (a17, .inr (8, [.ref a19, .ref a20, .ref a21, .ref a22, .ref a23, .ref a24, .ref a25, .int 0])), (a3, .inr (8, [.ref a26, .ref a27, .ref a28, .ref a29, .ref a30, .ref a31, .ref a32, .int 0])), (a5, .inr (0, [.ref a33, .int 0, .int 0, .long 0, .int 0, .int 0, .long 0])), (a4, .inr (4, [.ref a34, .ref a5, .ref a35, .ref a36, .ref a37, .ref a38, .ref a39, .int 100, .int 0, .int 0, .int (-1)])), (a35, .inr (8, [.ref a40, .ref a41, .ref a42, .ref a43, .ref a44, .ref a45, .ref a46, .int 0])), (a36, .inl (cI, 7, .inl (fun _ => 0))), (a33, .inl (cJ, 256, .inr (.inl (fun _ => 0)))), (a47, .inr (10, [.ref a48, .ref a49, .int 0, .int 0, .int 0, .int (-1), .int 0, .int 0, .int 0, .int 0, .long 0, .ref a50, .ref a51, .ref a52, .ref a53, .ref a54, .ref a55, .ref a56, .ref a57, .ref a58, .ref a59, .ref a60, .ref a61, .ref a62, .ref a63, .ref a64, .ref a65, .ref a66, .ref a67, .ref a68, .ref a69, .ref a70, .ref a71, .ref a72, .ref a73, .ref a74, .ref a75, .ref a76, .ref a77, .ref a78, .int 0, .int 0, .ref a79, .ref a80, .int 0, .int 0, .int 0, .int 0, .ref a81, .int 0, .ref a82, .ref a83, .ref a84, .int 0, .int 0, .int 0, .int 0, .int 0, .int 0, .int 0, .int 0, .ref a85, .int 0, .ref a86, .ref a87, .ref a88, .ref a89, .int 0, .int 0])), (a55, .inl (cI, 2, .inl (upd (fun _ => 0) 0 100))), (a54, .inl (cI, 2, .inl (upd (fun _ => 0) 0 100))), (a58, .inl (cI, 4, .inl (upd (upd (fun _ => 0) 0 16) 1 16))), (a57, .inl (cI, 4, .inl (upd (upd (fun _ => 0) 0 16) 1 16))), (a59, .inl (cI, 2, .inl (fun _ => 0))), (a66, .inl (cI, 2, .inl (fun _ => 0))), (a84, .inl (cI, 2, .inl (fun _ => 0))), (a82, .inl (cI, 300000, .inl (fun _ => 0))), (a85, .inl (cZ, 64, .inl (fun _ => 0)))]) (hS : va_S A s.heap H locs) (hl : lv_has ls 4 [(3, .int 0), (2, .ref a47), (1, .ref a0), (0, .ref b)]) : W p l e room_1 s m #[Value.ref b] below meth c H locs 1000 1000000 (lw_Z below #[Value.ref b] s) (F0 m 629 ls []) := by
  obtain ⟨hx, hb, hml, hown, hts⟩ := id hC
  refine lv_aload_n hx hb dL_law_629 rfl (lv_at hl 2 rfl) ?_
  refine lv_aload_n hx hb dL_law_630 rfl (lv_at hl 3 rfl) ?_
  refine lv_iload_n hx hb dL_law_631 rfl (lv_at hl 0 rfl) ?_
  refine lv_iconst (v := 1) hx hb dL_law_632 (by decide) ?_
  refine lv_iadd hx hb dL_law_633 ?_
  refine k_i 1 (by decide +kernel) ?_
  refine va_sld hx hb hX hbl hbA hS (i := 1) (k_in (k := 1) (by decide +kernel) (by decide)) dL_law_634 ?_
  refine k_i (xs 1) (congrArg xs (by decide +kernel)) ?_
  refine k_ci (wr := [(a47, .inr (10, [.ref a48, .ref a49, .int 0, .int 0, .int 0, .int (-1), .int 0, .int 0, .int 0, .int 0, .long 0, .ref a50, .ref a51, .ref a52, .ref a53, .ref a54, .ref a55, .ref a56, .ref a57, .ref a58, .ref a59, .ref a60, .ref a61, .ref a62, .ref a63, .ref a64, .ref a65, .ref a66, .ref a67, .ref a68, .ref a69, .ref a70, .ref a71, .ref a72, .ref a73, .ref a74, .ref a75, .ref a76, .ref a77, .ref a78, .int 0, .int 0, .ref a79, .ref a80, .int 0, .int 0, .int 0, .int 0, .ref a81, .int 0, .ref a82, .ref a83, .ref a84, .int 0, .int 0, .int 0, .int 0, .int 0, .int 0, .int 0, .int 0, .ref a85, .int 0, .ref a86, .ref a87, .ref a88, .ref a89, .int 0, .int 0])), (a55, .inl (cI, 2, .inl (upd (fun _ => 0) 0 100))), (a54, .inl (cI, 2, .inl (upd (fun _ => 0) 0 100))), (a58, .inl (cI, 4, .inl (upd (upd (fun _ => 0) 0 16) 1 16))), (a57, .inl (cI, 4, .inl (upd (upd (fun _ => 0) 0 16) 1 16))), (a59, .inl (cI, 2, .inl (fun _ => 0))), (a66, .inl (cI, 2, .inl (fun _ => 0))), (a84, .inl (cI, 2, .inl (fun _ => 0))), (a82, .inl (cI, 300000, .inl (fun _ => 0))), (a85, .inl (cZ, 64, .inl (fun _ => 0)))]) (k_rV hC hN hK hP hD (c97_X9_sets l G cI cJ cB cZ a0 a1 a2 a3 a4 a5 a6 a7 a8 a9 a10 a11 a12 a13 a14 a15 a16 a17 a18 a19 a20 a21 a22 a23 a24 a25 a26 a27 a28 a29 a30 a31 a32 a33 a34 a35 a36 a37 a38 a39 a40 a41 a42 a43 a44 a45 a46 (xs 1)) [0, 1, 2, 3, 4, 5, 6, 7, 8, 9, 10] rfl (by decide) mi_X9_sets in_X9_sets se_X9_sets wm_L_73 9 0 rfl rfl rfl hl.1 rfl rfl (Nat.le_of_ble_eq_true rfl) ⟨(Nat.le_of_ble_eq_true rfl), (Nat.le_of_ble_eq_true rfl)⟩ dL_law_635 ⟨(Nat.le_of_ble_eq_true rfl), (Nat.le_of_ble_eq_true rfl)⟩) hP hD hS hA [0, 1, 2, 3, 4, 5, 6, 7, 8, 9, 10] [11, 12, 13, 14, 15, 16, 17, 18, 19, 20] rfl rfl (by decide) (by decide) (fun r1 u1 H locs hp hP hD hS => ?_)
  have hP : va_P G cl [(a47, .inr (10, [.ref a48, .ref a49, .int 0, .int 0, .int 0, .int (-1), .int 0, .int 0, .int 0, .int 0, .long 0, .ref a50, .ref a51, .ref a52, .ref a53, .ref a54, .ref a55, .ref a56, .ref a57, .ref a58, .ref a59, .ref a60, .ref a61, .ref a62, .ref a63, .ref a64, .ref a65, .ref a66, .ref a67, .ref a68, .ref a69, .ref a70, .ref a71, .ref a72, .ref a73, .ref a74, .ref a75, .ref a76, .ref a77, .ref a78, .int 0, .int 0, .ref a79, .ref a80, .int 0, .int 0, .int 0, .int 0, .ref a81, .int 0, .ref a82, .ref a83, .ref a84, .int 0, .int 0, .int 0, .int 0, .int 0, .int 0, .int 0, .int 0, .ref a85, .int 0, .ref a86, .ref a87, .ref a88, .ref a89, .int 0, .int 0])), (a55, .inl (cI, 2, .inl (upd (fun _ => 0) 0 100))), (a54, .inl (cI, 2, .inl (upd (fun _ => 0) 0 100))), (a58, .inl (cI, 4, .inl (upd (upd (fun _ => 0) 0 16) 1 16))), (a57, .inl (cI, 4, .inl (upd (upd (fun _ => 0) 0 16) 1 16))), (a59, .inl (cI, 2, .inl (fun _ => 0))), (a66, .inl (cI, 2, .inl (fun _ => 0))), (a84, .inl (cI, 2, .inl (fun _ => 0))), (a82, .inl (cI, 300000, .inl (fun _ => 0))), (a85, .inl (cZ, 64, .inl (fun _ => 0)))] H := hP
  have hD : va_D A [(a47, .inr (10, [.ref a48, .ref a49, .int 0, .int 0, .int 0, .int (-1), .int 0, .int 0, .int 0, .int 0, .long 0, .ref a50, .ref a51, .ref a52, .ref a53, .ref a54, .ref a55, .ref a56, .ref a57, .ref a58, .ref a59, .ref a60, .ref a61, .ref a62, .ref a63, .ref a64, .ref a65, .ref a66, .ref a67, .ref a68, .ref a69, .ref a70, .ref a71, .ref a72, .ref a73, .ref a74, .ref a75, .ref a76, .ref a77, .ref a78, .int 0, .int 0, .ref a79, .ref a80, .int 0, .int 0, .int 0, .int 0, .ref a81, .int 0, .ref a82, .ref a83, .ref a84, .int 0, .int 0, .int 0, .int 0, .int 0, .int 0, .int 0, .int 0, .ref a85, .int 0, .ref a86, .ref a87, .ref a88, .ref a89, .int 0, .int 0])), (a55, .inl (cI, 2, .inl (upd (fun _ => 0) 0 100))), (a54, .inl (cI, 2, .inl (upd (fun _ => 0) 0 100))), (a58, .inl (cI, 4, .inl (upd (upd (fun _ => 0) 0 16) 1 16))), (a57, .inl (cI, 4, .inl (upd (upd (fun _ => 0) 0 16) 1 16))), (a59, .inl (cI, 2, .inl (fun _ => 0))), (a66, .inl (cI, 2, .inl (fun _ => 0))), (a84, .inl (cI, 2, .inl (fun _ => 0))), (a82, .inl (cI, 300000, .inl (fun _ => 0))), (a85, .inl (cZ, 64, .inl (fun _ => 0)))] := hD
  subst hp
  refine lv_aload_n hx hb dL_law_638 rfl (lv_at hl 1 rfl) ?_
  refine lv_aload_n hx hb dL_law_639 rfl (lv_at hl 3 rfl) ?_
  refine lv_iload_n hx hb dL_law_640 rfl (lv_at hl 0 rfl) ?_
  refine lv_iconst (v := 1) hx hb dL_law_641 (by decide) ?_
  refine lv_iadd hx hb dL_law_642 ?_
  refine k_i 1 (by decide +kernel) ?_
  refine va_sld hx hb hX hbl hbA hS (i := 1) (k_in (k := 1) (by decide +kernel) (by decide)) dL_law_643 ?_
  refine k_i (xs 1) (congrArg xs (by decide +kernel)) ?_
  refine k_ci (wr := []) (k_rV hC hN hK hP hD (c189_X10_sets l G cI cJ cB cZ a47 a48 a49 a50 a51 a52 a53 a54 a55 a56 a57 a58 a59 a60 a61 a62 a63 a64 a65 a66 a67 a68 a69 a70 a71 a72 a73 a74 a75 a76 a77 a78 a79 a80 a81 a82 a83 a84 a85 a86 a87 a88 a89 (xs 1)) [0, 1, 2, 3, 4, 5, 6, 7, 8, 9] rfl (by decide) mi_X10_sets in_X10_sets se_X10_sets wm_L_76 10 0 rfl rfl rfl hl.1 rfl rfl (Nat.le_of_ble_eq_true rfl) ⟨(Nat.le_of_ble_eq_true rfl), (Nat.le_of_ble_eq_true rfl)⟩ dL_law_644 ⟨(Nat.le_of_ble_eq_true rfl), (Nat.le_of_ble_eq_true rfl)⟩) hP hD hS hA [0, 1, 2, 3, 4, 5, 6, 7, 8, 9] [] rfl rfl (by decide) (by decide) (fun r2 u2 H locs hp hP hD hS => ?_)
  have hP : va_P G cl [] H := hP
  have hD : va_D A [] := hD
  subst hp
  refine lv_icmp_eq (tgt := 1428) hx hb dL_law_647 (by decide) (fun _ => ?_) (fun c_ => absurd (by decide +kernel) c_)
  exact law_tail hC hr hlk hX hbl hbA hfo hS hl (Nat.le_of_ble_eq_true rfl) (Nat.le_of_ble_eq_true rfl)
set_option maxRecDepth 100000 in
theorem wm_L_77 : Cond.methodLink RL 77 yX9_set ∈ gw := gm (List.mem_of_getElem? (i := 1020) (by decide +kernel)) rfl
set_option maxRecDepth 100000 in
theorem mi_X9_set : MI yX9_set cX9_set 3 (some .int) 2 := ⟨gm (List.mem_of_getElem? (i := 1023) rfl) rfl, gm (List.mem_of_getElem? (i := 112) (by decide +kernel)) rfl, by decide, by decide, by decide +kernel⟩
set_option maxRecDepth 100000 in
theorem in_X9_set : Cond.instanceMethod yX9_set ∈ gw := gm (List.mem_of_getElem? (i := 1021) (by decide +kernel)) rfl
set_option maxRecDepth 100000 in
theorem se_X9_set : Cond.selects yX9_set.cls yX9_set yX9_set ∈ gw := gm (List.mem_of_getElem? (i := 1022) (by decide +kernel)) rfl
set_option maxRecDepth 100000 in
theorem wm_L_80 : Cond.methodLink RL 80 yX10_set ∈ gw := gm (List.mem_of_getElem? (i := 1730) (by decide +kernel)) rfl
set_option maxRecDepth 100000 in
theorem mi_X10_set : MI yX10_set cX10_set 5 (some .int) 2 := ⟨gm (List.mem_of_getElem? (i := 1733) rfl) rfl, gm (List.mem_of_getElem? (i := 124) (by decide +kernel)) rfl, by decide, by decide, by decide +kernel⟩
set_option maxRecDepth 100000 in
theorem in_X10_set : Cond.instanceMethod yX10_set ∈ gw := gm (List.mem_of_getElem? (i := 1731) (by decide +kernel)) rfl
set_option maxRecDepth 100000 in
theorem se_X10_set : Cond.selects yX10_set.cls yX10_set yX10_set ∈ gw := gm (List.mem_of_getElem? (i := 1732) (by decide +kernel)) rfl
set_option maxHeartbeats 4000000 in
set_option maxRecDepth 100000 in
theorem law_set {p : Program} {l : Launch} {e : Env} {s : State} {m : MethodId} {below : List Frame} {meth : Method} {c : Code} {b : Nat} {xs : Nat → Int32} {A : Nat → Prop} {H : Heap} {locs : List Loc} {ls : Array Slot} {G : va_G} {cI cJ cB cZ : ClassId} (a0 a1 a2 a3 a4 a5 a6 a7 a8 a9 a10 a11 a12 a13 a14 a15 a16 a17 a18 a19 a20 a21 a22 a23 a24 a25 a26 a27 a28 a29 a30 a31 a32 a33 a34 a35 a36 a37 a38 a39 a40 a41 a42 a43 a44 a45 a46 a47 a48 a49 a50 a51 a52 a53 a54 a55 a56 a57 a58 a59 a60 a61 a62 a63 a64 a65 a66 a67 a68 a69 a70 a71 a72 a73 a74 a75 a76 a77 a78 a79 a80 a81 a82 a83 a84 a85 a86 a87 a88 a89 : Nat) (hC : CallFix p m c code 4 s #[Value.ref b] gw R_law) (hr : meth.sig.returnType = ret) (hlk : meth.locks = false) (hN : NW s) (hK : va_K G cl (TY cI cJ cB cZ) s) (hX : va_X b 6 xs s s.heap) (hbl : b < s.heap.size) (hA : ∀ q, s.heap.size ≤ q → A q) (hbA : ¬ A b) (hfo : ∀ q, A q → s.heap.size ≤ q) (hP : va_P G cl [(a0, .inr (9, [.ref a1, .ref a2, .ref a3, .int 0, .int 0, .ref a4, .ref a5, .ref a6, .ref a7])), (a1, .inr (7, [.int 100, .int 100, .int 0, .ref a8, .ref a9, .int 0, .ref a10, .ref a11, .ref a12, .ref a13, .ref a14, .ref a15, .ref a16, .ref a17, .ref a18])), (a9, .inl (cI, 2, .inl (upd (upd (fun _ => 0) 0 16) 1 16))), (a8, .inl (cI, 2, .inl (upd (upd (fun _ => 0) 0 16) 1 16))), (a17, .inr (8, [.ref a19, .ref a20, .ref a21, .ref a22, .ref a23, .ref a24, .ref a25, .int 0])), (a3, .inr (8, [.ref a26, .ref a27, .ref a28, .ref a29, .ref a30, .ref a31, .ref a32, .int 0])), (a5, .inr (0, [.ref a33, .int 0, .int 0, .long 0, .int 0, .int 0, .long 0])), (a4, .inr (4, [.ref a34, .ref a5, .ref a35, .ref a36, .ref a37, .ref a38, .ref a39, .int 100, .int 0, .int 0, .int (-1)])), (a35, .inr (8, [.ref a40, .ref a41, .ref a42, .ref a43, .ref a44, .ref a45, .ref a46, .int 0])), (a36, .inl (cI, 7, .inl (fun _ => 0))), (a33, .inl (cJ, 256, .inr (.inl (fun _ => 0)))), (a47, .inr (10, [.ref a48, .ref a49, .int 0, .int 0, .int 0, .int (-1), .int 0, .int 0, .int 0, .int 0, .long 0, .ref a50, .ref a51, .ref a52, .ref a53, .ref a54, .ref a55, .ref a56, .ref a57, .ref a58, .ref a59, .ref a60, .ref a61, .ref a62, .ref a63, .ref a64, .ref a65, .ref a66, .ref a67, .ref a68, .ref a69, .ref a70, .ref a71, .ref a72, .ref a73, .ref a74, .ref a75, .ref a76, .ref a77, .ref a78, .int 0, .int 0, .ref a79, .ref a80, .int 0, .int 0, .int 0, .int 0, .ref a81, .int 0, .ref a82, .ref a83, .ref a84, .int 0, .int 0, .int 0, .int 0, .int 0, .int 0, .int 0, .int 0, .ref a85, .int 0, .ref a86, .ref a87, .ref a88, .ref a89, .int 0, .int 0])), (a55, .inl (cI, 2, .inl (upd (fun _ => 0) 0 100))), (a54, .inl (cI, 2, .inl (upd (fun _ => 0) 0 100))), (a58, .inl (cI, 4, .inl (upd (upd (fun _ => 0) 0 16) 1 16))), (a57, .inl (cI, 4, .inl (upd (upd (fun _ => 0) 0 16) 1 16))), (a59, .inl (cI, 2, .inl (fun _ => 0))), (a66, .inl (cI, 2, .inl (fun _ => 0))), (a84, .inl (cI, 2, .inl (fun _ => 0))), (a82, .inl (cI, 300000, .inl (fun _ => 0))), (a85, .inl (cZ, 64, .inl (fun _ => 0)))] H) (hD : va_D A [(a0, .inr (9, [.ref a1, .ref a2, .ref a3, .int 0, .int 0, .ref a4, .ref a5, .ref a6, .ref a7])), (a1, .inr (7, [.int 100, .int 100, .int 0, .ref a8, .ref a9, .int 0, .ref a10, .ref a11, .ref a12, .ref a13, .ref a14, .ref a15, .ref a16, .ref a17, .ref a18])), (a9, .inl (cI, 2, .inl (upd (upd (fun _ => 0) 0 16) 1 16))), (a8, .inl (cI, 2, .inl (upd (upd (fun _ => 0) 0 16) 1 16))), (a17, .inr (8, [.ref a19, .ref a20, .ref a21, .ref a22, .ref a23, .ref a24, .ref a25, .int 0])), (a3, .inr (8, [.ref a26, .ref a27, .ref a28, .ref a29, .ref a30, .ref a31, .ref a32, .int 0])), (a5, .inr (0, [.ref a33, .int 0, .int 0, .long 0, .int 0, .int 0, .long 0])), (a4, .inr (4, [.ref a34, .ref a5, .ref a35, .ref a36, .ref a37, .ref a38, .ref a39, .int 100, .int 0, .int 0, .int (-1)])), (a35, .inr (8, [.ref a40, .ref a41, .ref a42, .ref a43, .ref a44, .ref a45, .ref a46, .int 0])), (a36, .inl (cI, 7, .inl (fun _ => 0))), (a33, .inl (cJ, 256, .inr (.inl (fun _ => 0)))), (a47, .inr (10, [.ref a48, .ref a49, .int 0, .int 0, .int 0, .int (-1), .int 0, .int 0, .int 0, .int 0, .long 0, .ref a50, .ref a51, .ref a52, .ref a53, .ref a54, .ref a55, .ref a56, .ref a57, .ref a58, .ref a59, .ref a60, .ref a61, .ref a62, .ref a63, .ref a64, .ref a65, .ref a66, .ref a67, .ref a68, .ref a69, .ref a70, .ref a71, .ref a72, .ref a73, .ref a74, .ref a75, .ref a76, .ref a77, .ref a78, .int 0, .int 0, .ref a79, .ref a80, .int 0, .int 0, .int 0, .int 0, .ref a81, .int 0, .ref a82, .ref a83, .ref a84, .int 0, .int 0, .int 0, .int 0, .int 0, .int 0, .int 0, .int 0, .ref a85, .int 0, .ref a86, .ref a87, .ref a88, .ref a89, .int 0, .int 0])), (a55, .inl (cI, 2, .inl (upd (fun _ => 0) 0 100))), (a54, .inl (cI, 2, .inl (upd (fun _ => 0) 0 100))), (a58, .inl (cI, 4, .inl (upd (upd (fun _ => 0) 0 16) 1 16))), (a57, .inl (cI, 4, .inl (upd (upd (fun _ => 0) 0 16) 1 16))), (a59, .inl (cI, 2, .inl (fun _ => 0))), (a66, .inl (cI, 2, .inl (fun _ => 0))), (a84, .inl (cI, 2, .inl (fun _ => 0))), (a82, .inl (cI, 300000, .inl (fun _ => 0))), (a85, .inl (cZ, 64, .inl (fun _ => 0)))]) (hS : va_S A s.heap H locs) (hl : lv_has ls 4 [(3, .int 0), (2, .ref a47), (1, .ref a0), (0, .ref b)]) : W p l e room_1 s m #[Value.ref b] below meth c H locs 1000 1000000 (lw_Z below #[Value.ref b] s) (F0 m 652 ls []) := by
  obtain ⟨hx, hb, hml, hown, hts⟩ := id hC
  refine lv_aload_n hx hb dL_law_652 rfl (lv_at hl 2 rfl) ?_
  refine lv_aload_n hx hb dL_law_653 rfl (lv_at hl 3 rfl) ?_
  refine lv_iload_n hx hb dL_law_654 rfl (lv_at hl 0 rfl) ?_
  refine lv_iconst (v := 1) hx hb dL_law_655 (by decide) ?_
  refine lv_iadd hx hb dL_law_656 ?_
  refine k_i 1 (by decide +kernel) ?_
  refine va_sld hx hb hX hbl hbA hS (i := 1) (k_in (k := 1) (by decide +kernel) (by decide)) dL_law_657 ?_
  refine k_i (xs 1) (congrArg xs (by decide +kernel)) ?_
  refine lv_aload_n hx hb dL_law_658 rfl (lv_at hl 3 rfl) ?_
  refine lv_iload_n hx hb dL_law_659 rfl (lv_at hl 0 rfl) ?_
  refine lv_iconst (v := 2) hx hb dL_law_660 (by decide) ?_
  refine lv_iadd hx hb dL_law_661 ?_
  refine k_i 2 (by decide +kernel) ?_
  refine va_sld hx hb hX hbl hbA hS (i := 2) (k_in (k := 2) (by decide +kernel) (by decide)) dL_law_662 ?_
  refine k_i (xs 2) (congrArg xs (by decide +kernel)) ?_
  refine k_ci (wr := [(a47, .inr (10, [.ref a48, .ref a49, .int 0, .int 0, .int 0, .int (-1), .int 0, .int 0, .int 0, .int 0, .long 0, .ref a50, .ref a51, .ref a52, .ref a53, .ref a54, .ref a55, .ref a56, .ref a57, .ref a58, .ref a59, .ref a60, .ref a61, .ref a62, .ref a63, .ref a64, .ref a65, .ref a66, .ref a67, .ref a68, .ref a69, .ref a70, .ref a71, .ref a72, .ref a73, .ref a74, .ref a75, .ref a76, .ref a77, .ref a78, .int 0, .int 0, .ref a79, .ref a80, .int 0, .int 0, .int 0, .int 0, .ref a81, .int 0, .ref a82, .ref a83, .ref a84, .int 0, .int 0, .int 0, .int 0, .int 0, .int 0, .int 0, .int 0, .ref a85, .int 0, .ref a86, .ref a87, .ref a88, .ref a89, .int 0, .int 0])), (a55, .inl (cI, 2, .inl (upd (fun _ => 0) 0 100))), (a54, .inl (cI, 2, .inl (upd (fun _ => 0) 0 100))), (a58, .inl (cI, 4, .inl (upd (upd (fun _ => 0) 0 16) 1 16))), (a57, .inl (cI, 4, .inl (upd (upd (fun _ => 0) 0 16) 1 16))), (a59, .inl (cI, 2, .inl (fun _ => 0))), (a66, .inl (cI, 2, .inl (fun _ => 0))), (a84, .inl (cI, 2, .inl (fun _ => 0))), (a82, .inl (cI, 300000, .inl (fun _ => 0))), (a85, .inl (cZ, 64, .inl (fun _ => 0)))]) (k_rV hC hN hK hP hD (c99_X9_set l G cI cJ cB cZ a0 a1 a2 a3 a4 a5 a6 a7 a8 a9 a10 a11 a12 a13 a14 a15 a16 a17 a18 a19 a20 a21 a22 a23 a24 a25 a26 a27 a28 a29 a30 a31 a32 a33 a34 a35 a36 a37 a38 a39 a40 a41 a42 a43 a44 a45 a46 (xs 1) (xs 2)) [0, 1, 2, 3, 4, 5, 6, 7, 8, 9, 10] rfl (by decide) mi_X9_set in_X9_set se_X9_set wm_L_77 9 0 rfl rfl rfl hl.1 rfl rfl (Nat.le_of_ble_eq_true rfl) ⟨(Nat.le_of_ble_eq_true rfl), (Nat.le_of_ble_eq_true rfl)⟩ dL_law_663 ⟨(Nat.le_of_ble_eq_true rfl), (Nat.le_of_ble_eq_true rfl)⟩) hP hD hS hA [0, 1, 2, 3, 4, 5, 6, 7, 8, 9, 10] [11, 12, 13, 14, 15, 16, 17, 18, 19, 20] rfl rfl (by decide) (by decide) (fun r1 u1 H locs hp hP hD hS => ?_)
  have hP : va_P G cl [(a47, .inr (10, [.ref a48, .ref a49, .int 0, .int 0, .int 0, .int (-1), .int 0, .int 0, .int 0, .int 0, .long 0, .ref a50, .ref a51, .ref a52, .ref a53, .ref a54, .ref a55, .ref a56, .ref a57, .ref a58, .ref a59, .ref a60, .ref a61, .ref a62, .ref a63, .ref a64, .ref a65, .ref a66, .ref a67, .ref a68, .ref a69, .ref a70, .ref a71, .ref a72, .ref a73, .ref a74, .ref a75, .ref a76, .ref a77, .ref a78, .int 0, .int 0, .ref a79, .ref a80, .int 0, .int 0, .int 0, .int 0, .ref a81, .int 0, .ref a82, .ref a83, .ref a84, .int 0, .int 0, .int 0, .int 0, .int 0, .int 0, .int 0, .int 0, .ref a85, .int 0, .ref a86, .ref a87, .ref a88, .ref a89, .int 0, .int 0])), (a55, .inl (cI, 2, .inl (upd (fun _ => 0) 0 100))), (a54, .inl (cI, 2, .inl (upd (fun _ => 0) 0 100))), (a58, .inl (cI, 4, .inl (upd (upd (fun _ => 0) 0 16) 1 16))), (a57, .inl (cI, 4, .inl (upd (upd (fun _ => 0) 0 16) 1 16))), (a59, .inl (cI, 2, .inl (fun _ => 0))), (a66, .inl (cI, 2, .inl (fun _ => 0))), (a84, .inl (cI, 2, .inl (fun _ => 0))), (a82, .inl (cI, 300000, .inl (fun _ => 0))), (a85, .inl (cZ, 64, .inl (fun _ => 0)))] H := hP
  have hD : va_D A [(a47, .inr (10, [.ref a48, .ref a49, .int 0, .int 0, .int 0, .int (-1), .int 0, .int 0, .int 0, .int 0, .long 0, .ref a50, .ref a51, .ref a52, .ref a53, .ref a54, .ref a55, .ref a56, .ref a57, .ref a58, .ref a59, .ref a60, .ref a61, .ref a62, .ref a63, .ref a64, .ref a65, .ref a66, .ref a67, .ref a68, .ref a69, .ref a70, .ref a71, .ref a72, .ref a73, .ref a74, .ref a75, .ref a76, .ref a77, .ref a78, .int 0, .int 0, .ref a79, .ref a80, .int 0, .int 0, .int 0, .int 0, .ref a81, .int 0, .ref a82, .ref a83, .ref a84, .int 0, .int 0, .int 0, .int 0, .int 0, .int 0, .int 0, .int 0, .ref a85, .int 0, .ref a86, .ref a87, .ref a88, .ref a89, .int 0, .int 0])), (a55, .inl (cI, 2, .inl (upd (fun _ => 0) 0 100))), (a54, .inl (cI, 2, .inl (upd (fun _ => 0) 0 100))), (a58, .inl (cI, 4, .inl (upd (upd (fun _ => 0) 0 16) 1 16))), (a57, .inl (cI, 4, .inl (upd (upd (fun _ => 0) 0 16) 1 16))), (a59, .inl (cI, 2, .inl (fun _ => 0))), (a66, .inl (cI, 2, .inl (fun _ => 0))), (a84, .inl (cI, 2, .inl (fun _ => 0))), (a82, .inl (cI, 300000, .inl (fun _ => 0))), (a85, .inl (cZ, 64, .inl (fun _ => 0)))] := hD
  have hp1 := hp
  refine lv_aload_n hx hb dL_law_666 rfl (lv_at hl 1 rfl) ?_
  refine lv_aload_n hx hb dL_law_667 rfl (lv_at hl 3 rfl) ?_
  refine lv_iload_n hx hb dL_law_668 rfl (lv_at hl 0 rfl) ?_
  refine lv_iconst (v := 1) hx hb dL_law_669 (by decide) ?_
  refine lv_iadd hx hb dL_law_670 ?_
  refine k_i 1 (by decide +kernel) ?_
  refine va_sld hx hb hX hbl hbA hS (i := 1) (k_in (k := 1) (by decide +kernel) (by decide)) dL_law_671 ?_
  refine k_i (xs 1) (congrArg xs (by decide +kernel)) ?_
  refine lv_aload_n hx hb dL_law_672 rfl (lv_at hl 3 rfl) ?_
  refine lv_iload_n hx hb dL_law_673 rfl (lv_at hl 0 rfl) ?_
  refine lv_iconst (v := 2) hx hb dL_law_674 (by decide) ?_
  refine lv_iadd hx hb dL_law_675 ?_
  refine k_i 2 (by decide +kernel) ?_
  refine va_sld hx hb hX hbl hbA hS (i := 2) (k_in (k := 2) (by decide +kernel) (by decide)) dL_law_676 ?_
  refine k_i (xs 2) (congrArg xs (by decide +kernel)) ?_
  refine k_ci (wr := []) (k_rV hC hN hK hP hD (c190_X10_set l G cI cJ cB cZ a47 a48 a49 a50 a51 a52 a53 a54 a55 a56 a57 a58 a59 a60 a61 a62 a63 a64 a65 a66 a67 a68 a69 a70 a71 a72 a73 a74 a75 a76 a77 a78 a79 a80 a81 a82 a83 a84 a85 a86 a87 a88 a89 (xs 1) (xs 2)) [0, 1, 2, 3, 4, 5, 6, 7, 8, 9] rfl (by decide) mi_X10_set in_X10_set se_X10_set wm_L_80 10 0 rfl rfl rfl hl.1 rfl rfl (Nat.le_of_ble_eq_true rfl) ⟨(Nat.le_of_ble_eq_true rfl), (Nat.le_of_ble_eq_true rfl)⟩ dL_law_677 ⟨(Nat.le_of_ble_eq_true rfl), (Nat.le_of_ble_eq_true rfl)⟩) hP hD hS hA [0, 1, 2, 3, 4, 5, 6, 7, 8, 9] [] rfl rfl (by decide) (by decide) (fun r2 u2 H locs hp hP hD hS => ?_)
  have hP : va_P G cl [] H := hP
  have hD : va_D A [] := hD
  have hp2 := hp
  refine lv_icmp_eq (tgt := 1428) hx hb dL_law_680 (by decide) (fun _ => ?_) (fun c_ => absurd (hp1.trans hp2.symm) c_)
  exact law_tail hC hr hlk hX hbl hbA hfo hS hl (Nat.le_of_ble_eq_true rfl) (Nat.le_of_ble_eq_true rfl)
set_option maxRecDepth 100000 in
theorem wm_L_81 : Cond.methodLink RL 81 yX9_next ∈ gw := gm (List.mem_of_getElem? (i := 1028) (by decide +kernel)) rfl
set_option maxRecDepth 100000 in
theorem mi_X9_next : MI yX9_next cX9_next 4 (some .int) 2 := ⟨gm (List.mem_of_getElem? (i := 1031) rfl) rfl, gm (List.mem_of_getElem? (i := 112) (by decide +kernel)) rfl, by decide, by decide, by decide +kernel⟩
set_option maxRecDepth 100000 in
theorem in_X9_next : Cond.instanceMethod yX9_next ∈ gw := gm (List.mem_of_getElem? (i := 1029) (by decide +kernel)) rfl
set_option maxRecDepth 100000 in
theorem se_X9_next : Cond.selects yX9_next.cls yX9_next yX9_next ∈ gw := gm (List.mem_of_getElem? (i := 1030) (by decide +kernel)) rfl
set_option maxRecDepth 100000 in
theorem wm_L_84 : Cond.methodLink RL 84 yX10_next ∈ gw := gm (List.mem_of_getElem? (i := 1734) (by decide +kernel)) rfl
set_option maxRecDepth 100000 in
theorem mi_X10_next : MI yX10_next cX10_next 9 (some .int) 2 := ⟨gm (List.mem_of_getElem? (i := 1737) rfl) rfl, gm (List.mem_of_getElem? (i := 124) (by decide +kernel)) rfl, by decide, by decide, by decide +kernel⟩
set_option maxRecDepth 100000 in
theorem in_X10_next : Cond.instanceMethod yX10_next ∈ gw := gm (List.mem_of_getElem? (i := 1735) (by decide +kernel)) rfl
set_option maxRecDepth 100000 in
theorem se_X10_next : Cond.selects yX10_next.cls yX10_next yX10_next ∈ gw := gm (List.mem_of_getElem? (i := 1736) (by decide +kernel)) rfl
set_option maxHeartbeats 4000000 in
set_option maxRecDepth 100000 in
theorem law_next {p : Program} {l : Launch} {e : Env} {s : State} {m : MethodId} {below : List Frame} {meth : Method} {c : Code} {b : Nat} {xs : Nat → Int32} {A : Nat → Prop} {H : Heap} {locs : List Loc} {ls : Array Slot} {G : va_G} {cI cJ cB cZ : ClassId} (a0 a1 a2 a3 a4 a5 a6 a7 a8 a9 a10 a11 a12 a13 a14 a15 a16 a17 a18 a19 a20 a21 a22 a23 a24 a25 a26 a27 a28 a29 a30 a31 a32 a33 a34 a35 a36 a37 a38 a39 a40 a41 a42 a43 a44 a45 a46 a47 a48 a49 a50 a51 a52 a53 a54 a55 a56 a57 a58 a59 a60 a61 : Nat) (hC : CallFix p m c code 4 s #[Value.ref b] gw R_law) (hr : meth.sig.returnType = ret) (hlk : meth.locks = false) (hN : NW s) (hK : va_K G cl (TY cI cJ cB cZ) s) (hX : va_X b 6 xs s s.heap) (hbl : b < s.heap.size) (hA : ∀ q, s.heap.size ≤ q → A q) (hbA : ¬ A b) (hfo : ∀ q, A q → s.heap.size ≤ q) (hP : va_P G cl [(a0, .inr (9, [.ref a1, .ref a2, .ref a3, .int 0, .int 0, .ref a4, .ref a5, .ref a6, .ref a7])), (a1, .inr (7, [.int 100, .int 100, .int 0, .ref a8, .ref a9, .int 0, .ref a10, .ref a11, .ref a12, .ref a13, .ref a14, .ref a15, .ref a16, .ref a17, .ref a18])), (a19, .inr (10, [.ref a20, .ref a21, .int 0, .int 0, .int 0, .int (-1), .int 0, .int 0, .int 0, .int 0, .long 0, .ref a22, .ref a23, .ref a24, .ref a25, .ref a26, .ref a27, .ref a28, .ref a29, .ref a30, .ref a31, .ref a32, .ref a33, .ref a34, .ref a35, .ref a36, .ref a37, .ref a38, .ref a39, .ref a40, .ref a41, .ref a42, .ref a43, .ref a44, .ref a45, .ref a46, .ref a47, .ref a48, .ref a49, .ref a50, .int 0, .int 0, .ref a51, .ref a52, .int 0, .int 0, .int 0, .int 0, .ref a53, .int 0, .ref a54, .ref a55, .ref a56, .int 0, .int 0, .int 0, .int 0, .int 0, .int 0, .int 0, .int 0, .ref a57, .int 0, .ref a58, .ref a59, .ref a60, .ref a61, .int 0, .int 0])), (a31, .inl (cI, 2, .inl (fun _ => 0)))] H) (hD : va_D A [(a0, .inr (9, [.ref a1, .ref a2, .ref a3, .int 0, .int 0, .ref a4, .ref a5, .ref a6, .ref a7])), (a1, .inr (7, [.int 100, .int 100, .int 0, .ref a8, .ref a9, .int 0, .ref a10, .ref a11, .ref a12, .ref a13, .ref a14, .ref a15, .ref a16, .ref a17, .ref a18])), (a19, .inr (10, [.ref a20, .ref a21, .int 0, .int 0, .int 0, .int (-1), .int 0, .int 0, .int 0, .int 0, .long 0, .ref a22, .ref a23, .ref a24, .ref a25, .ref a26, .ref a27, .ref a28, .ref a29, .ref a30, .ref a31, .ref a32, .ref a33, .ref a34, .ref a35, .ref a36, .ref a37, .ref a38, .ref a39, .ref a40, .ref a41, .ref a42, .ref a43, .ref a44, .ref a45, .ref a46, .ref a47, .ref a48, .ref a49, .ref a50, .int 0, .int 0, .ref a51, .ref a52, .int 0, .int 0, .int 0, .int 0, .ref a53, .int 0, .ref a54, .ref a55, .ref a56, .int 0, .int 0, .int 0, .int 0, .int 0, .int 0, .int 0, .int 0, .ref a57, .int 0, .ref a58, .ref a59, .ref a60, .ref a61, .int 0, .int 0])), (a31, .inl (cI, 2, .inl (fun _ => 0)))]) (hS : va_S A s.heap H locs) (hl : lv_has ls 4 [(3, .int 0), (2, .ref a19), (1, .ref a0), (0, .ref b)]) : W p l e room_1 s m #[Value.ref b] below meth c H locs 1000 1000000 (lw_Z below #[Value.ref b] s) (F0 m 685 ls []) := by
  obtain ⟨hx, hb, hml, hown, hts⟩ := id hC
  refine lv_aload_n hx hb dL_law_685 rfl (lv_at hl 2 rfl) ?_
  refine lv_aload_n hx hb dL_law_686 rfl (lv_at hl 3 rfl) ?_
  refine lv_iload_n hx hb dL_law_687 rfl (lv_at hl 0 rfl) ?_
  refine lv_iconst (v := 1) hx hb dL_law_688 (by decide) ?_
  refine lv_iadd hx hb dL_law_689 ?_
  refine k_i 1 (by decide +kernel) ?_
  refine va_sld hx hb hX hbl hbA hS (i := 1) (k_in (k := 1) (by decide +kernel) (by decide)) dL_law_690 ?_
  refine k_i (xs 1) (congrArg xs (by decide +kernel)) ?_
  refine lv_aload_n hx hb dL_law_691 rfl (lv_at hl 3 rfl) ?_
  refine lv_iload_n hx hb dL_law_692 rfl (lv_at hl 0 rfl) ?_
  refine lv_iconst (v := 2) hx hb dL_law_693 (by decide) ?_
  refine lv_iadd hx hb dL_law_694 ?_
  refine k_i 2 (by decide +kernel) ?_
  refine va_sld hx hb hX hbl hbA hS (i := 2) (k_in (k := 2) (by decide +kernel) (by decide)) dL_law_695 ?_
  refine k_i (xs 2) (congrArg xs (by decide +kernel)) ?_
  refine k_ci (wr := [(a19, .inr (10, [.ref a20, .ref a21, .int 0, .int 0, .int 0, .int (-1), .int 0, .int 0, .int 0, .int 0, .long 0, .ref a22, .ref a23, .ref a24, .ref a25, .ref a26, .ref a27, .ref a28, .ref a29, .ref a30, .ref a31, .ref a32, .ref a33, .ref a34, .ref a35, .ref a36, .ref a37, .ref a38, .ref a39, .ref a40, .ref a41, .ref a42, .ref a43, .ref a44, .ref a45, .ref a46, .ref a47, .ref a48, .ref a49, .ref a50, .int 0, .int 0, .ref a51, .ref a52, .int 0, .int 0, .int 0, .int 0, .ref a53, .int 0, .ref a54, .ref a55, .ref a56, .int 0, .int 0, .int 0, .int 0, .int 0, .int 0, .int 0, .int 0, .ref a57, .int 0, .ref a58, .ref a59, .ref a60, .ref a61, .int 0, .int 0])), (a31, .inl (cI, 2, .inl (fun _ => 0)))]) (k_rV hC hN hK hP hD (c100_X9_next l G cI cJ cB cZ a0 a1 a2 a3 a4 a5 a6 a7 a8 a9 a10 a11 a12 a13 a14 a15 a16 a17 a18 (xs 1) (xs 2)) [0, 1] rfl (by decide) mi_X9_next in_X9_next se_X9_next wm_L_81 9 0 rfl rfl rfl hl.1 rfl rfl (Nat.le_of_ble_eq_true rfl) ⟨(Nat.le_of_ble_eq_true rfl), (Nat.le_of_ble_eq_true rfl)⟩ dL_law_696 ⟨(Nat.le_of_ble_eq_true rfl), (Nat.le_of_ble_eq_true rfl)⟩) hP hD hS hA [0, 1] [2, 3] rfl rfl (by decide) (by decide) (fun r1 u1 H locs hp hP hD hS => ?_)
  have hP : va_P G cl [(a19, .inr (10, [.ref a20, .ref a21, .int 0, .int 0, .int 0, .int (-1), .int 0, .int 0, .int 0, .int 0, .long 0, .ref a22, .ref a23, .ref a24, .ref a25, .ref a26, .ref a27, .ref a28, .ref a29, .ref a30, .ref a31, .ref a32, .ref a33, .ref a34, .ref a35, .ref a36, .ref a37, .ref a38, .ref a39, .ref a40, .ref a41, .ref a42, .ref a43, .ref a44, .ref a45, .ref a46, .ref a47, .ref a48, .ref a49, .ref a50, .int 0, .int 0, .ref a51, .ref a52, .int 0, .int 0, .int 0, .int 0, .ref a53, .int 0, .ref a54, .ref a55, .ref a56, .int 0, .int 0, .int 0, .int 0, .int 0, .int 0, .int 0, .int 0, .ref a57, .int 0, .ref a58, .ref a59, .ref a60, .ref a61, .int 0, .int 0])), (a31, .inl (cI, 2, .inl (fun _ => 0)))] H := hP
  have hD : va_D A [(a19, .inr (10, [.ref a20, .ref a21, .int 0, .int 0, .int 0, .int (-1), .int 0, .int 0, .int 0, .int 0, .long 0, .ref a22, .ref a23, .ref a24, .ref a25, .ref a26, .ref a27, .ref a28, .ref a29, .ref a30, .ref a31, .ref a32, .ref a33, .ref a34, .ref a35, .ref a36, .ref a37, .ref a38, .ref a39, .ref a40, .ref a41, .ref a42, .ref a43, .ref a44, .ref a45, .ref a46, .ref a47, .ref a48, .ref a49, .ref a50, .int 0, .int 0, .ref a51, .ref a52, .int 0, .int 0, .int 0, .int 0, .ref a53, .int 0, .ref a54, .ref a55, .ref a56, .int 0, .int 0, .int 0, .int 0, .int 0, .int 0, .int 0, .int 0, .ref a57, .int 0, .ref a58, .ref a59, .ref a60, .ref a61, .int 0, .int 0])), (a31, .inl (cI, 2, .inl (fun _ => 0)))] := hD
  subst hp
  refine lv_aload_n hx hb dL_law_699 rfl (lv_at hl 1 rfl) ?_
  refine lv_aload_n hx hb dL_law_700 rfl (lv_at hl 3 rfl) ?_
  refine lv_iload_n hx hb dL_law_701 rfl (lv_at hl 0 rfl) ?_
  refine lv_iconst (v := 1) hx hb dL_law_702 (by decide) ?_
  refine lv_iadd hx hb dL_law_703 ?_
  refine k_i 1 (by decide +kernel) ?_
  refine va_sld hx hb hX hbl hbA hS (i := 1) (k_in (k := 1) (by decide +kernel) (by decide)) dL_law_704 ?_
  refine k_i (xs 1) (congrArg xs (by decide +kernel)) ?_
  refine lv_aload_n hx hb dL_law_705 rfl (lv_at hl 3 rfl) ?_
  refine lv_iload_n hx hb dL_law_706 rfl (lv_at hl 0 rfl) ?_
  refine lv_iconst (v := 2) hx hb dL_law_707 (by decide) ?_
  refine lv_iadd hx hb dL_law_708 ?_
  refine k_i 2 (by decide +kernel) ?_
  refine va_sld hx hb hX hbl hbA hS (i := 2) (k_in (k := 2) (by decide +kernel) (by decide)) dL_law_709 ?_
  refine k_i (xs 2) (congrArg xs (by decide +kernel)) ?_
  refine k_ci (wr := []) (k_rV hC hN hK hP hD (c192_X10_next l G cI cJ cB cZ a19 a20 a21 a22 a23 a24 a25 a26 a27 a28 a29 a30 a31 a32 a33 a34 a35 a36 a37 a38 a39 a40 a41 a42 a43 a44 a45 a46 a47 a48 a49 a50 a51 a52 a53 a54 a55 a56 a57 a58 a59 a60 a61 (xs 1) (xs 2)) [0, 1] rfl (by decide) mi_X10_next in_X10_next se_X10_next wm_L_84 10 0 rfl rfl rfl hl.1 rfl rfl (Nat.le_of_ble_eq_true rfl) ⟨(Nat.le_of_ble_eq_true rfl), (Nat.le_of_ble_eq_true rfl)⟩ dL_law_710 ⟨(Nat.le_of_ble_eq_true rfl), (Nat.le_of_ble_eq_true rfl)⟩) hP hD hS hA [0, 1] [] rfl rfl (by decide) (by decide) (fun r2 u2 H locs hp hP hD hS => ?_)
  have hP : va_P G cl [] H := hP
  have hD : va_D A [] := hD
  subst hp
  refine lv_icmp_eq (tgt := 1428) hx hb dL_law_713 (by decide) (fun _ => ?_) (fun c_ => absurd (by decide +kernel) c_)
  exact law_tail hC hr hlk hX hbl hbA hfo hS hl (Nat.le_of_ble_eq_true rfl) (Nat.le_of_ble_eq_true rfl)
set_option maxRecDepth 100000 in
theorem wm_L_85 : Cond.methodLink RL 85 yX9_parts ∈ gw := gm (List.mem_of_getElem? (i := 1071) (by decide +kernel)) rfl
set_option maxRecDepth 100000 in
theorem mi_X9_parts : MI yX9_parts cX9_parts 7 (some .int) 3 := ⟨gm (List.mem_of_getElem? (i := 1074) rfl) rfl, gm (List.mem_of_getElem? (i := 112) (by decide +kernel)) rfl, by decide, by decide, by decide +kernel⟩
set_option maxRecDepth 100000 in
theorem in_X9_parts : Cond.instanceMethod yX9_parts ∈ gw := gm (List.mem_of_getElem? (i := 1072) (by decide +kernel)) rfl
set_option maxRecDepth 100000 in
theorem se_X9_parts : Cond.selects yX9_parts.cls yX9_parts yX9_parts ∈ gw := gm (List.mem_of_getElem? (i := 1073) (by decide +kernel)) rfl
set_option maxRecDepth 100000 in
theorem wm_L_88 : Cond.methodLink RL 88 yX10_parts ∈ gw := gm (List.mem_of_getElem? (i := 1753) (by decide +kernel)) rfl
set_option maxRecDepth 100000 in
theorem mi_X10_parts : MI yX10_parts cX10_parts 5 (some .int) 3 := ⟨gm (List.mem_of_getElem? (i := 1756) rfl) rfl, gm (List.mem_of_getElem? (i := 124) (by decide +kernel)) rfl, by decide, by decide, by decide +kernel⟩
set_option maxRecDepth 100000 in
theorem in_X10_parts : Cond.instanceMethod yX10_parts ∈ gw := gm (List.mem_of_getElem? (i := 1754) (by decide +kernel)) rfl
set_option maxRecDepth 100000 in
theorem se_X10_parts : Cond.selects yX10_parts.cls yX10_parts yX10_parts ∈ gw := gm (List.mem_of_getElem? (i := 1755) (by decide +kernel)) rfl
set_option maxHeartbeats 4000000 in
set_option maxRecDepth 100000 in
theorem law_parts {p : Program} {l : Launch} {e : Env} {s : State} {m : MethodId} {below : List Frame} {meth : Method} {c : Code} {b : Nat} {xs : Nat → Int32} {A : Nat → Prop} {H : Heap} {locs : List Loc} {ls : Array Slot} {G : va_G} {cI cJ cB cZ : ClassId} (a0 a1 a2 a3 a4 a5 a6 a7 a8 a9 a10 a11 a12 a13 a14 a15 a16 a17 a18 a19 a20 a21 a22 a23 a24 a25 a26 a27 a28 a29 a30 a31 a32 a33 a34 a35 a36 a37 a38 a39 a40 a41 a42 a43 a44 a45 a46 a47 a48 a49 a50 a51 a52 a53 a54 a55 a56 a57 a58 a59 a60 a61 a62 a63 a64 a65 a66 a67 a68 a69 a70 a71 : Nat) (f_n437 : Nat → Int32) (f_n438 : Nat → Int32) (hk_n437 : okLR f_n437) (hk_n438 : okLR f_n438) (hC : CallFix p m c code 4 s #[Value.ref b] gw R_law) (hr : meth.sig.returnType = ret) (hlk : meth.locks = false) (hN : NW s) (hK : va_K G cl (TY cI cJ cB cZ) s) (hX : va_X b 6 xs s s.heap) (hbl : b < s.heap.size) (hA : ∀ q, s.heap.size ≤ q → A q) (hbA : ¬ A b) (hfo : ∀ q, A q → s.heap.size ≤ q) (hP : va_P G cl [(a0, .inr (9, [.ref a1, .ref a2, .ref a3, .int 0, .int 0, .ref a4, .ref a5, .ref a6, .ref a7])), (a1, .inr (7, [.int 100, .int 100, .int 0, .ref a8, .ref a9, .int 0, .ref a10, .ref a11, .ref a12, .ref a13, .ref a14, .ref a15, .ref a16, .ref a17, .ref a18])), (a6, .inr (6, [.ref a19, .ref a20, .ref a21, .int 0, .ref a22, .ref a23, .int (-1), .int (-1), .int (-1), .ref a24, .int 0, .ref a25, .ref a26, .ref a27, .ref a28, .int 0, .int (-1), .int (-1), .int (-1), .int (-1)])), (a19, .inl (cI, 729, .inl f_n437)), (a20, .inl (cI, 729, .inl f_n438)), (a29, .inr (10, [.ref a30, .ref a31, .int 0, .int 0, .int 0, .int (-1), .int 0, .int 0, .int 0, .int 0, .long 0, .ref a32, .ref a33, .ref a34, .ref a35, .ref a36, .ref a37, .ref a38, .ref a39, .ref a40, .ref a41, .ref a42, .ref a43, .ref a44, .ref a45, .ref a46, .ref a47, .ref a48, .ref a49, .ref a50, .ref a51, .ref a52, .ref a53, .ref a54, .ref a55, .ref a56, .ref a57, .ref a58, .ref a59, .ref a60, .int 0, .int 0, .ref a61, .ref a62, .int 0, .int 0, .int 0, .int 0, .ref a63, .int 0, .ref a64, .ref a65, .ref a66, .int 0, .int 0, .int 0, .int 0, .int 0, .int 0, .int 0, .int 0, .ref a67, .int 0, .ref a68, .ref a69, .ref a70, .ref a71, .int 0, .int 0])), (a41, .inl (cI, 2, .inl (fun _ => 0)))] H) (hD : va_D A [(a0, .inr (9, [.ref a1, .ref a2, .ref a3, .int 0, .int 0, .ref a4, .ref a5, .ref a6, .ref a7])), (a1, .inr (7, [.int 100, .int 100, .int 0, .ref a8, .ref a9, .int 0, .ref a10, .ref a11, .ref a12, .ref a13, .ref a14, .ref a15, .ref a16, .ref a17, .ref a18])), (a6, .inr (6, [.ref a19, .ref a20, .ref a21, .int 0, .ref a22, .ref a23, .int (-1), .int (-1), .int (-1), .ref a24, .int 0, .ref a25, .ref a26, .ref a27, .ref a28, .int 0, .int (-1), .int (-1), .int (-1), .int (-1)])), (a19, .inl (cI, 729, .inl f_n437)), (a20, .inl (cI, 729, .inl f_n438)), (a29, .inr (10, [.ref a30, .ref a31, .int 0, .int 0, .int 0, .int (-1), .int 0, .int 0, .int 0, .int 0, .long 0, .ref a32, .ref a33, .ref a34, .ref a35, .ref a36, .ref a37, .ref a38, .ref a39, .ref a40, .ref a41, .ref a42, .ref a43, .ref a44, .ref a45, .ref a46, .ref a47, .ref a48, .ref a49, .ref a50, .ref a51, .ref a52, .ref a53, .ref a54, .ref a55, .ref a56, .ref a57, .ref a58, .ref a59, .ref a60, .int 0, .int 0, .ref a61, .ref a62, .int 0, .int 0, .int 0, .int 0, .ref a63, .int 0, .ref a64, .ref a65, .ref a66, .int 0, .int 0, .int 0, .int 0, .int 0, .int 0, .int 0, .int 0, .ref a67, .int 0, .ref a68, .ref a69, .ref a70, .ref a71, .int 0, .int 0])), (a41, .inl (cI, 2, .inl (fun _ => 0)))]) (hS : va_S A s.heap H locs) (hl : lv_has ls 4 [(3, .int 0), (2, .ref a29), (1, .ref a0), (0, .ref b)]) : W p l e room_1 s m #[Value.ref b] below meth c H locs 1000 1000000 (lw_Z below #[Value.ref b] s) (F0 m 718 ls []) := by
  obtain ⟨hx, hb, hml, hown, hts⟩ := id hC
  refine lv_aload_n hx hb dL_law_718 rfl (lv_at hl 2 rfl) ?_
  refine lv_aload_n hx hb dL_law_719 rfl (lv_at hl 3 rfl) ?_
  refine lv_iload_n hx hb dL_law_720 rfl (lv_at hl 0 rfl) ?_
  refine lv_iconst (v := 1) hx hb dL_law_721 (by decide) ?_
  refine lv_iadd hx hb dL_law_722 ?_
  refine k_i 1 (by decide +kernel) ?_
  refine va_sld hx hb hX hbl hbA hS (i := 1) (k_in (k := 1) (by decide +kernel) (by decide)) dL_law_723 ?_
  refine k_i (xs 1) (congrArg xs (by decide +kernel)) ?_
  refine lv_aload_n hx hb dL_law_724 rfl (lv_at hl 3 rfl) ?_
  refine lv_iload_n hx hb dL_law_725 rfl (lv_at hl 0 rfl) ?_
  refine lv_iconst (v := 2) hx hb dL_law_726 (by decide) ?_
  refine lv_iadd hx hb dL_law_727 ?_
  refine k_i 2 (by decide +kernel) ?_
  refine va_sld hx hb hX hbl hbA hS (i := 2) (k_in (k := 2) (by decide +kernel) (by decide)) dL_law_728 ?_
  refine k_i (xs 2) (congrArg xs (by decide +kernel)) ?_
  refine lv_aload_n hx hb dL_law_729 rfl (lv_at hl 3 rfl) ?_
  refine lv_iload_n hx hb dL_law_730 rfl (lv_at hl 0 rfl) ?_
  refine lv_iconst (v := 3) hx hb dL_law_731 (by decide) ?_
  refine lv_iadd hx hb dL_law_732 ?_
  refine k_i 3 (by decide +kernel) ?_
  refine va_sld hx hb hX hbl hbA hS (i := 3) (k_in (k := 3) (by decide +kernel) (by decide)) dL_law_733 ?_
  refine k_i (xs 3) (congrArg xs (by decide +kernel)) ?_
  refine k_ci (wr := [(a29, .inr (10, [.ref a30, .ref a31, .int 0, .int 0, .int 0, .int (-1), .int 0, .int 0, .int 0, .int 0, .long 0, .ref a32, .ref a33, .ref a34, .ref a35, .ref a36, .ref a37, .ref a38, .ref a39, .ref a40, .ref a41, .ref a42, .ref a43, .ref a44, .ref a45, .ref a46, .ref a47, .ref a48, .ref a49, .ref a50, .ref a51, .ref a52, .ref a53, .ref a54, .ref a55, .ref a56, .ref a57, .ref a58, .ref a59, .ref a60, .int 0, .int 0, .ref a61, .ref a62, .int 0, .int 0, .int 0, .int 0, .ref a63, .int 0, .ref a64, .ref a65, .ref a66, .int 0, .int 0, .int 0, .int 0, .int 0, .int 0, .int 0, .int 0, .ref a67, .int 0, .ref a68, .ref a69, .ref a70, .ref a71, .int 0, .int 0])), (a41, .inl (cI, 2, .inl (fun _ => 0)))]) (k_rV hC hN hK hP hD (c101_X9_parts l G cI cJ cB cZ a0 a1 a2 a3 a4 a5 a6 a7 a8 a9 a10 a11 a12 a13 a14 a15 a16 a17 a18 a19 a20 a21 a22 a23 a24 a25 a26 a27 a28 (xs 1) (xs 2) (xs 3) f_n437 f_n438 hk_n437 hk_n438) [0, 1, 2, 3, 4] rfl (by decide) mi_X9_parts in_X9_parts se_X9_parts wm_L_85 9 0 rfl rfl rfl hl.1 rfl rfl (Nat.le_of_ble_eq_true rfl) ⟨(Nat.le_of_ble_eq_true rfl), (Nat.le_of_ble_eq_true rfl)⟩ dL_law_734 ⟨(Nat.le_of_ble_eq_true rfl), (Nat.le_of_ble_eq_true rfl)⟩) hP hD hS hA [0, 1, 2, 3, 4] [5, 6] rfl rfl (by decide) (by decide) (fun r1 u1 H locs hp hP hD hS => ?_)
  have hP : va_P G cl [(a29, .inr (10, [.ref a30, .ref a31, .int 0, .int 0, .int 0, .int (-1), .int 0, .int 0, .int 0, .int 0, .long 0, .ref a32, .ref a33, .ref a34, .ref a35, .ref a36, .ref a37, .ref a38, .ref a39, .ref a40, .ref a41, .ref a42, .ref a43, .ref a44, .ref a45, .ref a46, .ref a47, .ref a48, .ref a49, .ref a50, .ref a51, .ref a52, .ref a53, .ref a54, .ref a55, .ref a56, .ref a57, .ref a58, .ref a59, .ref a60, .int 0, .int 0, .ref a61, .ref a62, .int 0, .int 0, .int 0, .int 0, .ref a63, .int 0, .ref a64, .ref a65, .ref a66, .int 0, .int 0, .int 0, .int 0, .int 0, .int 0, .int 0, .int 0, .ref a67, .int 0, .ref a68, .ref a69, .ref a70, .ref a71, .int 0, .int 0])), (a41, .inl (cI, 2, .inl (fun _ => 0)))] H := hP
  have hD : va_D A [(a29, .inr (10, [.ref a30, .ref a31, .int 0, .int 0, .int 0, .int (-1), .int 0, .int 0, .int 0, .int 0, .long 0, .ref a32, .ref a33, .ref a34, .ref a35, .ref a36, .ref a37, .ref a38, .ref a39, .ref a40, .ref a41, .ref a42, .ref a43, .ref a44, .ref a45, .ref a46, .ref a47, .ref a48, .ref a49, .ref a50, .ref a51, .ref a52, .ref a53, .ref a54, .ref a55, .ref a56, .ref a57, .ref a58, .ref a59, .ref a60, .int 0, .int 0, .ref a61, .ref a62, .int 0, .int 0, .int 0, .int 0, .ref a63, .int 0, .ref a64, .ref a65, .ref a66, .int 0, .int 0, .int 0, .int 0, .int 0, .int 0, .int 0, .int 0, .ref a67, .int 0, .ref a68, .ref a69, .ref a70, .ref a71, .int 0, .int 0])), (a41, .inl (cI, 2, .inl (fun _ => 0)))] := hD
  subst hp
  refine lv_aload_n hx hb dL_law_737 rfl (lv_at hl 1 rfl) ?_
  refine lv_aload_n hx hb dL_law_738 rfl (lv_at hl 3 rfl) ?_
  refine lv_iload_n hx hb dL_law_739 rfl (lv_at hl 0 rfl) ?_
  refine lv_iconst (v := 1) hx hb dL_law_740 (by decide) ?_
  refine lv_iadd hx hb dL_law_741 ?_
  refine k_i 1 (by decide +kernel) ?_
  refine va_sld hx hb hX hbl hbA hS (i := 1) (k_in (k := 1) (by decide +kernel) (by decide)) dL_law_742 ?_
  refine k_i (xs 1) (congrArg xs (by decide +kernel)) ?_
  refine lv_aload_n hx hb dL_law_743 rfl (lv_at hl 3 rfl) ?_
  refine lv_iload_n hx hb dL_law_744 rfl (lv_at hl 0 rfl) ?_
  refine lv_iconst (v := 2) hx hb dL_law_745 (by decide) ?_
  refine lv_iadd hx hb dL_law_746 ?_
  refine k_i 2 (by decide +kernel) ?_
  refine va_sld hx hb hX hbl hbA hS (i := 2) (k_in (k := 2) (by decide +kernel) (by decide)) dL_law_747 ?_
  refine k_i (xs 2) (congrArg xs (by decide +kernel)) ?_
  refine lv_aload_n hx hb dL_law_748 rfl (lv_at hl 3 rfl) ?_
  refine lv_iload_n hx hb dL_law_749 rfl (lv_at hl 0 rfl) ?_
  refine lv_iconst (v := 3) hx hb dL_law_750 (by decide) ?_
  refine lv_iadd hx hb dL_law_751 ?_
  refine k_i 3 (by decide +kernel) ?_
  refine va_sld hx hb hX hbl hbA hS (i := 3) (k_in (k := 3) (by decide +kernel) (by decide)) dL_law_752 ?_
  refine k_i (xs 3) (congrArg xs (by decide +kernel)) ?_
  refine k_ci (wr := []) (k_rV hC hN hK hP hD (c195_X10_parts l G cI cJ cB cZ a29 a30 a31 a32 a33 a34 a35 a36 a37 a38 a39 a40 a41 a42 a43 a44 a45 a46 a47 a48 a49 a50 a51 a52 a53 a54 a55 a56 a57 a58 a59 a60 a61 a62 a63 a64 a65 a66 a67 a68 a69 a70 a71 (xs 1) (xs 2) (xs 3)) [0, 1] rfl (by decide) mi_X10_parts in_X10_parts se_X10_parts wm_L_88 10 0 rfl rfl rfl hl.1 rfl rfl (Nat.le_of_ble_eq_true rfl) ⟨(Nat.le_of_ble_eq_true rfl), (Nat.le_of_ble_eq_true rfl)⟩ dL_law_753 ⟨(Nat.le_of_ble_eq_true rfl), (Nat.le_of_ble_eq_true rfl)⟩) hP hD hS hA [0, 1] [] rfl rfl (by decide) (by decide) (fun r2 u2 H locs hp hP hD hS => ?_)
  have hP : va_P G cl [] H := hP
  have hD : va_D A [] := hD
  subst hp
  refine lv_icmp_eq (tgt := 1428) hx hb dL_law_756 (by decide) (fun _ => ?_) (fun c_ => absurd (by decide +kernel) c_)
  exact law_tail hC hr hlk hX hbl hbA hfo hS hl (Nat.le_of_ble_eq_true rfl) (Nat.le_of_ble_eq_true rfl)
set_option maxRecDepth 100000 in
theorem wm_L_89 : Cond.methodLink RL 89 yX9_clear ∈ gw := gm (List.mem_of_getElem? (i := 1087) (by decide +kernel)) rfl
set_option maxRecDepth 100000 in
theorem mi_X9_clear : MI yX9_clear cX9_clear 5 (some .int) 3 := ⟨gm (List.mem_of_getElem? (i := 1090) rfl) rfl, gm (List.mem_of_getElem? (i := 112) (by decide +kernel)) rfl, by decide, by decide, by decide +kernel⟩
set_option maxRecDepth 100000 in
theorem in_X9_clear : Cond.instanceMethod yX9_clear ∈ gw := gm (List.mem_of_getElem? (i := 1088) (by decide +kernel)) rfl
set_option maxRecDepth 100000 in
theorem se_X9_clear : Cond.selects yX9_clear.cls yX9_clear yX9_clear ∈ gw := gm (List.mem_of_getElem? (i := 1089) (by decide +kernel)) rfl
set_option maxRecDepth 100000 in
theorem wm_L_92 : Cond.methodLink RL 92 yX10_clear ∈ gw := gm (List.mem_of_getElem? (i := 1757) (by decide +kernel)) rfl
set_option maxRecDepth 100000 in
theorem mi_X10_clear : MI yX10_clear cX10_clear 6 (some .int) 3 := ⟨gm (List.mem_of_getElem? (i := 1760) rfl) rfl, gm (List.mem_of_getElem? (i := 124) (by decide +kernel)) rfl, by decide, by decide, by decide +kernel⟩
set_option maxRecDepth 100000 in
theorem in_X10_clear : Cond.instanceMethod yX10_clear ∈ gw := gm (List.mem_of_getElem? (i := 1758) (by decide +kernel)) rfl
set_option maxRecDepth 100000 in
theorem se_X10_clear : Cond.selects yX10_clear.cls yX10_clear yX10_clear ∈ gw := gm (List.mem_of_getElem? (i := 1759) (by decide +kernel)) rfl
set_option maxHeartbeats 4000000 in
set_option maxRecDepth 100000 in
theorem law_clear {p : Program} {l : Launch} {e : Env} {s : State} {m : MethodId} {below : List Frame} {meth : Method} {c : Code} {b : Nat} {xs : Nat → Int32} {A : Nat → Prop} {H : Heap} {locs : List Loc} {ls : Array Slot} {G : va_G} {cI cJ cB cZ : ClassId} (a0 a1 a2 a3 a4 a5 a6 a7 a8 a9 a10 a11 a12 a13 a14 a15 a16 a17 a18 a19 a20 a21 a22 a23 a24 a25 a26 a27 a28 a29 a30 a31 a32 a33 a34 a35 a36 a37 a38 a39 a40 a41 a42 a43 a44 a45 a46 a47 a48 a49 a50 a51 a52 a53 a54 a55 a56 a57 a58 a59 a60 a61 : Nat) (hC : CallFix p m c code 4 s #[Value.ref b] gw R_law) (hr : meth.sig.returnType = ret) (hlk : meth.locks = false) (hN : NW s) (hK : va_K G cl (TY cI cJ cB cZ) s) (hX : va_X b 6 xs s s.heap) (hbl : b < s.heap.size) (hA : ∀ q, s.heap.size ≤ q → A q) (hbA : ¬ A b) (hfo : ∀ q, A q → s.heap.size ≤ q) (hP : va_P G cl [(a0, .inr (9, [.ref a1, .ref a2, .ref a3, .int 0, .int 0, .ref a4, .ref a5, .ref a6, .ref a7])), (a1, .inr (7, [.int 100, .int 100, .int 0, .ref a8, .ref a9, .int 0, .ref a10, .ref a11, .ref a12, .ref a13, .ref a14, .ref a15, .ref a16, .ref a17, .ref a18])), (a19, .inr (10, [.ref a20, .ref a21, .int 0, .int 0, .int 0, .int (-1), .int 0, .int 0, .int 0, .int 0, .long 0, .ref a22, .ref a23, .ref a24, .ref a25, .ref a26, .ref a27, .ref a28, .ref a29, .ref a30, .ref a31, .ref a32, .ref a33, .ref a34, .ref a35, .ref a36, .ref a37, .ref a38, .ref a39, .ref a40, .ref a41, .ref a42, .ref a43, .ref a44, .ref a45, .ref a46, .ref a47, .ref a48, .ref a49, .ref a50, .int 0, .int 0, .ref a51, .ref a52, .int 0, .int 0, .int 0, .int 0, .ref a53, .int 0, .ref a54, .ref a55, .ref a56, .int 0, .int 0, .int 0, .int 0, .int 0, .int 0, .int 0, .int 0, .ref a57, .int 0, .ref a58, .ref a59, .ref a60, .ref a61, .int 0, .int 0])), (a31, .inl (cI, 2, .inl (fun _ => 0)))] H) (hD : va_D A [(a0, .inr (9, [.ref a1, .ref a2, .ref a3, .int 0, .int 0, .ref a4, .ref a5, .ref a6, .ref a7])), (a1, .inr (7, [.int 100, .int 100, .int 0, .ref a8, .ref a9, .int 0, .ref a10, .ref a11, .ref a12, .ref a13, .ref a14, .ref a15, .ref a16, .ref a17, .ref a18])), (a19, .inr (10, [.ref a20, .ref a21, .int 0, .int 0, .int 0, .int (-1), .int 0, .int 0, .int 0, .int 0, .long 0, .ref a22, .ref a23, .ref a24, .ref a25, .ref a26, .ref a27, .ref a28, .ref a29, .ref a30, .ref a31, .ref a32, .ref a33, .ref a34, .ref a35, .ref a36, .ref a37, .ref a38, .ref a39, .ref a40, .ref a41, .ref a42, .ref a43, .ref a44, .ref a45, .ref a46, .ref a47, .ref a48, .ref a49, .ref a50, .int 0, .int 0, .ref a51, .ref a52, .int 0, .int 0, .int 0, .int 0, .ref a53, .int 0, .ref a54, .ref a55, .ref a56, .int 0, .int 0, .int 0, .int 0, .int 0, .int 0, .int 0, .int 0, .ref a57, .int 0, .ref a58, .ref a59, .ref a60, .ref a61, .int 0, .int 0])), (a31, .inl (cI, 2, .inl (fun _ => 0)))]) (hS : va_S A s.heap H locs) (hl : lv_has ls 4 [(3, .int 0), (2, .ref a19), (1, .ref a0), (0, .ref b)]) : W p l e room_1 s m #[Value.ref b] below meth c H locs 1000 1000000 (lw_Z below #[Value.ref b] s) (F0 m 761 ls []) := by
  obtain ⟨hx, hb, hml, hown, hts⟩ := id hC
  refine lv_aload_n hx hb dL_law_761 rfl (lv_at hl 2 rfl) ?_
  refine lv_aload_n hx hb dL_law_762 rfl (lv_at hl 3 rfl) ?_
  refine lv_iload_n hx hb dL_law_763 rfl (lv_at hl 0 rfl) ?_
  refine lv_iconst (v := 1) hx hb dL_law_764 (by decide) ?_
  refine lv_iadd hx hb dL_law_765 ?_
  refine k_i 1 (by decide +kernel) ?_
  refine va_sld hx hb hX hbl hbA hS (i := 1) (k_in (k := 1) (by decide +kernel) (by decide)) dL_law_766 ?_
  refine k_i (xs 1) (congrArg xs (by decide +kernel)) ?_
  refine lv_aload_n hx hb dL_law_767 rfl (lv_at hl 3 rfl) ?_
  refine lv_iload_n hx hb dL_law_768 rfl (lv_at hl 0 rfl) ?_
  refine lv_iconst (v := 2) hx hb dL_law_769 (by decide) ?_
  refine lv_iadd hx hb dL_law_770 ?_
  refine k_i 2 (by decide +kernel) ?_
  refine va_sld hx hb hX hbl hbA hS (i := 2) (k_in (k := 2) (by decide +kernel) (by decide)) dL_law_771 ?_
  refine k_i (xs 2) (congrArg xs (by decide +kernel)) ?_
  refine lv_aload_n hx hb dL_law_772 rfl (lv_at hl 3 rfl) ?_
  refine lv_iload_n hx hb dL_law_773 rfl (lv_at hl 0 rfl) ?_
  refine lv_iconst (v := 3) hx hb dL_law_774 (by decide) ?_
  refine lv_iadd hx hb dL_law_775 ?_
  refine k_i 3 (by decide +kernel) ?_
  refine va_sld hx hb hX hbl hbA hS (i := 3) (k_in (k := 3) (by decide +kernel) (by decide)) dL_law_776 ?_
  refine k_i (xs 3) (congrArg xs (by decide +kernel)) ?_
  refine k_ci (wr := [(a19, .inr (10, [.ref a20, .ref a21, .int 0, .int 0, .int 0, .int (-1), .int 0, .int 0, .int 0, .int 0, .long 0, .ref a22, .ref a23, .ref a24, .ref a25, .ref a26, .ref a27, .ref a28, .ref a29, .ref a30, .ref a31, .ref a32, .ref a33, .ref a34, .ref a35, .ref a36, .ref a37, .ref a38, .ref a39, .ref a40, .ref a41, .ref a42, .ref a43, .ref a44, .ref a45, .ref a46, .ref a47, .ref a48, .ref a49, .ref a50, .int 0, .int 0, .ref a51, .ref a52, .int 0, .int 0, .int 0, .int 0, .ref a53, .int 0, .ref a54, .ref a55, .ref a56, .int 0, .int 0, .int 0, .int 0, .int 0, .int 0, .int 0, .int 0, .ref a57, .int 0, .ref a58, .ref a59, .ref a60, .ref a61, .int 0, .int 0])), (a31, .inl (cI, 2, .inl (fun _ => 0)))]) (k_rV hC hN hK hP hD (c102_X9_clear l G cI cJ cB cZ a0 a1 a2 a3 a4 a5 a6 a7 a8 a9 a10 a11 a12 a13 a14 a15 a16 a17 a18 (xs 1) (xs 2) (xs 3)) [0, 1] rfl (by decide) mi_X9_clear in_X9_clear se_X9_clear wm_L_89 9 0 rfl rfl rfl hl.1 rfl rfl (Nat.le_of_ble_eq_true rfl) ⟨(Nat.le_of_ble_eq_true rfl), (Nat.le_of_ble_eq_true rfl)⟩ dL_law_777 ⟨(Nat.le_of_ble_eq_true rfl), (Nat.le_of_ble_eq_true rfl)⟩) hP hD hS hA [0, 1] [2, 3] rfl rfl (by decide) (by decide) (fun r1 u1 H locs hp hP hD hS => ?_)
  have hP : va_P G cl [(a19, .inr (10, [.ref a20, .ref a21, .int 0, .int 0, .int 0, .int (-1), .int 0, .int 0, .int 0, .int 0, .long 0, .ref a22, .ref a23, .ref a24, .ref a25, .ref a26, .ref a27, .ref a28, .ref a29, .ref a30, .ref a31, .ref a32, .ref a33, .ref a34, .ref a35, .ref a36, .ref a37, .ref a38, .ref a39, .ref a40, .ref a41, .ref a42, .ref a43, .ref a44, .ref a45, .ref a46, .ref a47, .ref a48, .ref a49, .ref a50, .int 0, .int 0, .ref a51, .ref a52, .int 0, .int 0, .int 0, .int 0, .ref a53, .int 0, .ref a54, .ref a55, .ref a56, .int 0, .int 0, .int 0, .int 0, .int 0, .int 0, .int 0, .int 0, .ref a57, .int 0, .ref a58, .ref a59, .ref a60, .ref a61, .int 0, .int 0])), (a31, .inl (cI, 2, .inl (fun _ => 0)))] H := hP
  have hD : va_D A [(a19, .inr (10, [.ref a20, .ref a21, .int 0, .int 0, .int 0, .int (-1), .int 0, .int 0, .int 0, .int 0, .long 0, .ref a22, .ref a23, .ref a24, .ref a25, .ref a26, .ref a27, .ref a28, .ref a29, .ref a30, .ref a31, .ref a32, .ref a33, .ref a34, .ref a35, .ref a36, .ref a37, .ref a38, .ref a39, .ref a40, .ref a41, .ref a42, .ref a43, .ref a44, .ref a45, .ref a46, .ref a47, .ref a48, .ref a49, .ref a50, .int 0, .int 0, .ref a51, .ref a52, .int 0, .int 0, .int 0, .int 0, .ref a53, .int 0, .ref a54, .ref a55, .ref a56, .int 0, .int 0, .int 0, .int 0, .int 0, .int 0, .int 0, .int 0, .ref a57, .int 0, .ref a58, .ref a59, .ref a60, .ref a61, .int 0, .int 0])), (a31, .inl (cI, 2, .inl (fun _ => 0)))] := hD
  subst hp
  refine lv_aload_n hx hb dL_law_780 rfl (lv_at hl 1 rfl) ?_
  refine lv_aload_n hx hb dL_law_781 rfl (lv_at hl 3 rfl) ?_
  refine lv_iload_n hx hb dL_law_782 rfl (lv_at hl 0 rfl) ?_
  refine lv_iconst (v := 1) hx hb dL_law_783 (by decide) ?_
  refine lv_iadd hx hb dL_law_784 ?_
  refine k_i 1 (by decide +kernel) ?_
  refine va_sld hx hb hX hbl hbA hS (i := 1) (k_in (k := 1) (by decide +kernel) (by decide)) dL_law_785 ?_
  refine k_i (xs 1) (congrArg xs (by decide +kernel)) ?_
  refine lv_aload_n hx hb dL_law_786 rfl (lv_at hl 3 rfl) ?_
  refine lv_iload_n hx hb dL_law_787 rfl (lv_at hl 0 rfl) ?_
  refine lv_iconst (v := 2) hx hb dL_law_788 (by decide) ?_
  refine lv_iadd hx hb dL_law_789 ?_
  refine k_i 2 (by decide +kernel) ?_
  refine va_sld hx hb hX hbl hbA hS (i := 2) (k_in (k := 2) (by decide +kernel) (by decide)) dL_law_790 ?_
  refine k_i (xs 2) (congrArg xs (by decide +kernel)) ?_
  refine lv_aload_n hx hb dL_law_791 rfl (lv_at hl 3 rfl) ?_
  refine lv_iload_n hx hb dL_law_792 rfl (lv_at hl 0 rfl) ?_
  refine lv_iconst (v := 3) hx hb dL_law_793 (by decide) ?_
  refine lv_iadd hx hb dL_law_794 ?_
  refine k_i 3 (by decide +kernel) ?_
  refine va_sld hx hb hX hbl hbA hS (i := 3) (k_in (k := 3) (by decide +kernel) (by decide)) dL_law_795 ?_
  refine k_i (xs 3) (congrArg xs (by decide +kernel)) ?_
  refine k_ci (wr := []) (k_rV hC hN hK hP hD (c196_X10_clear l G cI cJ cB cZ a19 a20 a21 a22 a23 a24 a25 a26 a27 a28 a29 a30 a31 a32 a33 a34 a35 a36 a37 a38 a39 a40 a41 a42 a43 a44 a45 a46 a47 a48 a49 a50 a51 a52 a53 a54 a55 a56 a57 a58 a59 a60 a61 (xs 1) (xs 2) (xs 3)) [0, 1] rfl (by decide) mi_X10_clear in_X10_clear se_X10_clear wm_L_92 10 0 rfl rfl rfl hl.1 rfl rfl (Nat.le_of_ble_eq_true rfl) ⟨(Nat.le_of_ble_eq_true rfl), (Nat.le_of_ble_eq_true rfl)⟩ dL_law_796 ⟨(Nat.le_of_ble_eq_true rfl), (Nat.le_of_ble_eq_true rfl)⟩) hP hD hS hA [0, 1] [] rfl rfl (by decide) (by decide) (fun r2 u2 H locs hp hP hD hS => ?_)
  have hP : va_P G cl [] H := hP
  have hD : va_D A [] := hD
  subst hp
  refine lv_icmp_eq (tgt := 1428) hx hb dL_law_799 (by decide) (fun _ => ?_) (fun c_ => absurd (by decide +kernel) c_)
  exact law_tail hC hr hlk hX hbl hbA hfo hS hl (Nat.le_of_ble_eq_true rfl) (Nat.le_of_ble_eq_true rfl)
set_option maxRecDepth 100000 in
theorem wm_L_93 : Cond.methodLink RL 93 yX9_arm ∈ gw := gm (List.mem_of_getElem? (i := 1139) (by decide +kernel)) rfl
set_option maxRecDepth 100000 in
theorem mi_X9_arm : MI yX9_arm cX9_arm 5 (some .int) 1 := ⟨gm (List.mem_of_getElem? (i := 1142) rfl) rfl, gm (List.mem_of_getElem? (i := 112) (by decide +kernel)) rfl, by decide, by decide, by decide +kernel⟩
set_option maxRecDepth 100000 in
theorem in_X9_arm : Cond.instanceMethod yX9_arm ∈ gw := gm (List.mem_of_getElem? (i := 1140) (by decide +kernel)) rfl
set_option maxRecDepth 100000 in
theorem se_X9_arm : Cond.selects yX9_arm.cls yX9_arm yX9_arm ∈ gw := gm (List.mem_of_getElem? (i := 1141) (by decide +kernel)) rfl
set_option maxRecDepth 100000 in
theorem wm_L_96 : Cond.methodLink RL 96 yX10_arm ∈ gw := gm (List.mem_of_getElem? (i := 1789) (by decide +kernel)) rfl
set_option maxRecDepth 100000 in
theorem mi_X10_arm : MI yX10_arm cX10_arm 3 (some .int) 1 := ⟨gm (List.mem_of_getElem? (i := 1792) rfl) rfl, gm (List.mem_of_getElem? (i := 124) (by decide +kernel)) rfl, by decide, by decide, by decide +kernel⟩
set_option maxRecDepth 100000 in
theorem in_X10_arm : Cond.instanceMethod yX10_arm ∈ gw := gm (List.mem_of_getElem? (i := 1790) (by decide +kernel)) rfl
set_option maxRecDepth 100000 in
theorem se_X10_arm : Cond.selects yX10_arm.cls yX10_arm yX10_arm ∈ gw := gm (List.mem_of_getElem? (i := 1791) (by decide +kernel)) rfl
set_option maxHeartbeats 4000000 in
set_option maxRecDepth 100000 in
theorem law_arm {p : Program} {l : Launch} {e : Env} {s : State} {m : MethodId} {below : List Frame} {meth : Method} {c : Code} {b : Nat} {xs : Nat → Int32} {A : Nat → Prop} {H : Heap} {locs : List Loc} {ls : Array Slot} {G : va_G} {cI cJ cB cZ : ClassId} (a0 a1 a2 a3 a4 a5 a6 a7 a8 a9 a10 a11 a12 a13 a14 a15 a16 a17 a18 a19 a20 a21 a22 a23 a24 a25 a26 a27 a28 a29 a30 a31 a32 a33 a34 a35 a36 a37 a38 a39 a40 a41 a42 a43 a44 a45 a46 a47 a48 a49 a50 a51 a52 a53 a54 a55 a56 a57 a58 a59 a60 a61 a62 a63 a64 a65 a66 a67 a68 a69 a70 a71 a72 a73 a74 a75 a76 a77 a78 a79 a80 a81 a82 a83 a84 a85 a86 a87 a88 a89 : Nat) (hC : CallFix p m c code 4 s #[Value.ref b] gw R_law) (hr : meth.sig.returnType = ret) (hlk : meth.locks = false) (hN : NW s) (hK : va_K G cl (TY cI cJ cB cZ) s) (hX : va_X b 6 xs s s.heap) (hbl : b < s.heap.size) (hA : ∀ q, s.heap.size ≤ q → A q) (hbA : ¬ A b) (hfo : ∀ q, A q → s.heap.size ≤ q) (hP : va_P G cl [(a0, .inr (9, [.ref a1, .ref a2, .ref a3, .int 0, .int 0, .ref a4, .ref a5, .ref a6, .ref a7])), (a1, .inr (7, [.int 100, .int 100, .int 0, .ref a8, .ref a9, .int 0, .ref a10, .ref a11, .ref a12, .ref a13, .ref a14, .ref a15, .ref a16, .ref a17, .ref a18])), (a9, .inl (cI, 2, .inl (upd (upd (fun _ => 0) 0 16) 1 16))), (a8, .inl (cI, 2, .inl (upd (upd (fun _ => 0) 0 16) 1 16))), (a17, .inr (8, [.ref a19, .ref a20, .ref a21, .ref a22, .ref a23, .ref a24, .ref a25, .int 0])), (a3, .inr (8, [.ref a26, .ref a27, .ref a28, .ref a29, .ref a30, .ref a31, .ref a32, .int 0])), (a5, .inr (0, [.ref a33, .int 0, .int 0, .long 0, .int 0, .int 0, .long 0])), (a4, .inr (4, [.ref a34, .ref a5, .ref a35, .ref a36, .ref a37, .ref a38, .ref a39, .int 100, .int 0, .int 0, .int (-1)])), (a35, .inr (8, [.ref a40, .ref a41, .ref a42, .ref a43, .ref a44, .ref a45, .ref a46, .int 0])), (a36, .inl (cI, 7, .inl (fun _ => 0))), (a33, .inl (cJ, 256, .inr (.inl (fun _ => 0)))), (a47, .inr (10, [.ref a48, .ref a49, .int 0, .int 0, .int 0, .int (-1), .int 0, .int 0, .int 0, .int 0, .long 0, .ref a50, .ref a51, .ref a52, .ref a53, .ref a54, .ref a55, .ref a56, .ref a57, .ref a58, .ref a59, .ref a60, .ref a61, .ref a62, .ref a63, .ref a64, .ref a65, .ref a66, .ref a67, .ref a68, .ref a69, .ref a70, .ref a71, .ref a72, .ref a73, .ref a74, .ref a75, .ref a76, .ref a77, .ref a78, .int 0, .int 0, .ref a79, .ref a80, .int 0, .int 0, .int 0, .int 0, .ref a81, .int 0, .ref a82, .ref a83, .ref a84, .int 0, .int 0, .int 0, .int 0, .int 0, .int 0, .int 0, .int 0, .ref a85, .int 0, .ref a86, .ref a87, .ref a88, .ref a89, .int 0, .int 0])), (a59, .inl (cI, 2, .inl (fun _ => 0))), (a55, .inl (cI, 2, .inl (upd (fun _ => 0) 0 100))), (a54, .inl (cI, 2, .inl (upd (fun _ => 0) 0 100))), (a58, .inl (cI, 4, .inl (upd (upd (fun _ => 0) 0 16) 1 16))), (a57, .inl (cI, 4, .inl (upd (upd (fun _ => 0) 0 16) 1 16))), (a66, .inl (cI, 2, .inl (fun _ => 0))), (a84, .inl (cI, 2, .inl (fun _ => 0))), (a82, .inl (cI, 300000, .inl (fun _ => 0)))] H) (hD : va_D A [(a0, .inr (9, [.ref a1, .ref a2, .ref a3, .int 0, .int 0, .ref a4, .ref a5, .ref a6, .ref a7])), (a1, .inr (7, [.int 100, .int 100, .int 0, .ref a8, .ref a9, .int 0, .ref a10, .ref a11, .ref a12, .ref a13, .ref a14, .ref a15, .ref a16, .ref a17, .ref a18])), (a9, .inl (cI, 2, .inl (upd (upd (fun _ => 0) 0 16) 1 16))), (a8, .inl (cI, 2, .inl (upd (upd (fun _ => 0) 0 16) 1 16))), (a17, .inr (8, [.ref a19, .ref a20, .ref a21, .ref a22, .ref a23, .ref a24, .ref a25, .int 0])), (a3, .inr (8, [.ref a26, .ref a27, .ref a28, .ref a29, .ref a30, .ref a31, .ref a32, .int 0])), (a5, .inr (0, [.ref a33, .int 0, .int 0, .long 0, .int 0, .int 0, .long 0])), (a4, .inr (4, [.ref a34, .ref a5, .ref a35, .ref a36, .ref a37, .ref a38, .ref a39, .int 100, .int 0, .int 0, .int (-1)])), (a35, .inr (8, [.ref a40, .ref a41, .ref a42, .ref a43, .ref a44, .ref a45, .ref a46, .int 0])), (a36, .inl (cI, 7, .inl (fun _ => 0))), (a33, .inl (cJ, 256, .inr (.inl (fun _ => 0)))), (a47, .inr (10, [.ref a48, .ref a49, .int 0, .int 0, .int 0, .int (-1), .int 0, .int 0, .int 0, .int 0, .long 0, .ref a50, .ref a51, .ref a52, .ref a53, .ref a54, .ref a55, .ref a56, .ref a57, .ref a58, .ref a59, .ref a60, .ref a61, .ref a62, .ref a63, .ref a64, .ref a65, .ref a66, .ref a67, .ref a68, .ref a69, .ref a70, .ref a71, .ref a72, .ref a73, .ref a74, .ref a75, .ref a76, .ref a77, .ref a78, .int 0, .int 0, .ref a79, .ref a80, .int 0, .int 0, .int 0, .int 0, .ref a81, .int 0, .ref a82, .ref a83, .ref a84, .int 0, .int 0, .int 0, .int 0, .int 0, .int 0, .int 0, .int 0, .ref a85, .int 0, .ref a86, .ref a87, .ref a88, .ref a89, .int 0, .int 0])), (a59, .inl (cI, 2, .inl (fun _ => 0))), (a55, .inl (cI, 2, .inl (upd (fun _ => 0) 0 100))), (a54, .inl (cI, 2, .inl (upd (fun _ => 0) 0 100))), (a58, .inl (cI, 4, .inl (upd (upd (fun _ => 0) 0 16) 1 16))), (a57, .inl (cI, 4, .inl (upd (upd (fun _ => 0) 0 16) 1 16))), (a66, .inl (cI, 2, .inl (fun _ => 0))), (a84, .inl (cI, 2, .inl (fun _ => 0))), (a82, .inl (cI, 300000, .inl (fun _ => 0)))]) (hS : va_S A s.heap H locs) (hl : lv_has ls 4 [(3, .int 0), (2, .ref a47), (1, .ref a0), (0, .ref b)]) : W p l e room_1 s m #[Value.ref b] below meth c H locs 1000 1000000 (lw_Z below #[Value.ref b] s) (F0 m 804 ls []) := by
  obtain ⟨hx, hb, hml, hown, hts⟩ := id hC
  refine lv_aload_n hx hb dL_law_804 rfl (lv_at hl 2 rfl) ?_
  refine lv_aload_n hx hb dL_law_805 rfl (lv_at hl 3 rfl) ?_
  refine lv_iload_n hx hb dL_law_806 rfl (lv_at hl 0 rfl) ?_
  refine lv_iconst (v := 1) hx hb dL_law_807 (by decide) ?_
  refine lv_iadd hx hb dL_law_808 ?_
  refine k_i 1 (by decide +kernel) ?_
  refine va_sld hx hb hX hbl hbA hS (i := 1) (k_in (k := 1) (by decide +kernel) (by decide)) dL_law_809 ?_
  refine k_i (xs 1) (congrArg xs (by decide +kernel)) ?_
  refine k_ci (wr := [(a47, .inr (10, [.ref a48, .ref a49, .int 0, .int 0, .int 0, .int (-1), .int 0, .int 0, .int 0, .int 0, .long 0, .ref a50, .ref a51, .ref a52, .ref a53, .ref a54, .ref a55, .ref a56, .ref a57, .ref a58, .ref a59, .ref a60, .ref a61, .ref a62, .ref a63, .ref a64, .ref a65, .ref a66, .ref a67, .ref a68, .ref a69, .ref a70, .ref a71, .ref a72, .ref a73, .ref a74, .ref a75, .ref a76, .ref a77, .ref a78, .int 0, .int 0, .ref a79, .ref a80, .int 0, .int 0, .int 0, .int 0, .ref a81, .int 0, .ref a82, .ref a83, .ref a84, .int 0, .int 0, .int 0, .int 0, .int 0, .int 0, .int 0, .int 0, .ref a85, .int 0, .ref a86, .ref a87, .ref a88, .ref a89, .int 0, .int 0])), (a59, .inl (cI, 2, .inl (fun _ => 0))), (a55, .inl (cI, 2, .inl (upd (fun _ => 0) 0 100))), (a54, .inl (cI, 2, .inl (upd (fun _ => 0) 0 100))), (a58, .inl (cI, 4, .inl (upd (upd (fun _ => 0) 0 16) 1 16))), (a57, .inl (cI, 4, .inl (upd (upd (fun _ => 0) 0 16) 1 16))), (a66, .inl (cI, 2, .inl (fun _ => 0))), (a84, .inl (cI, 2, .inl (fun _ => 0))), (a82, .inl (cI, 300000, .inl (fun _ => 0)))]) (k_rV hC hN hK hP hD (c103_X9_arm l G cI cJ cB cZ a0 a1 a2 a3 a4 a5 a6 a7 a8 a9 a10 a11 a12 a13 a14 a15 a16 a17 a18 a19 a20 a21 a22 a23 a24 a25 a26 a27 a28 a29 a30 a31 a32 a33 a34 a35 a36 a37 a38 a39 a40 a41 a42 a43 a44 a45 a46 (xs 1)) [0, 1, 2, 3, 4, 5, 6, 7, 8, 9, 10] rfl (by decide) mi_X9_arm in_X9_arm se_X9_arm wm_L_93 9 0 rfl rfl rfl hl.1 rfl rfl (Nat.le_of_ble_eq_true rfl) ⟨(Nat.le_of_ble_eq_true rfl), (Nat.le_of_ble_eq_true rfl)⟩ dL_law_810 ⟨(Nat.le_of_ble_eq_true rfl), (Nat.le_of_ble_eq_true rfl)⟩) hP hD hS hA [0, 1, 2, 3, 4, 5, 6, 7, 8, 9, 10] [11, 12, 13, 14, 15, 16, 17, 18, 19] rfl rfl (by decide) (by decide) (fun r1 u1 H locs hp hP hD hS => ?_)
  have hP : va_P G cl [(a47, .inr (10, [.ref a48, .ref a49, .int 0, .int 0, .int 0, .int (-1), .int 0, .int 0, .int 0, .int 0, .long 0, .ref a50, .ref a51, .ref a52, .ref a53, .ref a54, .ref a55, .ref a56, .ref a57, .ref a58, .ref a59, .ref a60, .ref a61, .ref a62, .ref a63, .ref a64, .ref a65, .ref a66, .ref a67, .ref a68, .ref a69, .ref a70, .ref a71, .ref a72, .ref a73, .ref a74, .ref a75, .ref a76, .ref a77, .ref a78, .int 0, .int 0, .ref a79, .ref a80, .int 0, .int 0, .int 0, .int 0, .ref a81, .int 0, .ref a82, .ref a83, .ref a84, .int 0, .int 0, .int 0, .int 0, .int 0, .int 0, .int 0, .int 0, .ref a85, .int 0, .ref a86, .ref a87, .ref a88, .ref a89, .int 0, .int 0])), (a59, .inl (cI, 2, .inl (fun _ => 0))), (a55, .inl (cI, 2, .inl (upd (fun _ => 0) 0 100))), (a54, .inl (cI, 2, .inl (upd (fun _ => 0) 0 100))), (a58, .inl (cI, 4, .inl (upd (upd (fun _ => 0) 0 16) 1 16))), (a57, .inl (cI, 4, .inl (upd (upd (fun _ => 0) 0 16) 1 16))), (a66, .inl (cI, 2, .inl (fun _ => 0))), (a84, .inl (cI, 2, .inl (fun _ => 0))), (a82, .inl (cI, 300000, .inl (fun _ => 0)))] H := hP
  have hD : va_D A [(a47, .inr (10, [.ref a48, .ref a49, .int 0, .int 0, .int 0, .int (-1), .int 0, .int 0, .int 0, .int 0, .long 0, .ref a50, .ref a51, .ref a52, .ref a53, .ref a54, .ref a55, .ref a56, .ref a57, .ref a58, .ref a59, .ref a60, .ref a61, .ref a62, .ref a63, .ref a64, .ref a65, .ref a66, .ref a67, .ref a68, .ref a69, .ref a70, .ref a71, .ref a72, .ref a73, .ref a74, .ref a75, .ref a76, .ref a77, .ref a78, .int 0, .int 0, .ref a79, .ref a80, .int 0, .int 0, .int 0, .int 0, .ref a81, .int 0, .ref a82, .ref a83, .ref a84, .int 0, .int 0, .int 0, .int 0, .int 0, .int 0, .int 0, .int 0, .ref a85, .int 0, .ref a86, .ref a87, .ref a88, .ref a89, .int 0, .int 0])), (a59, .inl (cI, 2, .inl (fun _ => 0))), (a55, .inl (cI, 2, .inl (upd (fun _ => 0) 0 100))), (a54, .inl (cI, 2, .inl (upd (fun _ => 0) 0 100))), (a58, .inl (cI, 4, .inl (upd (upd (fun _ => 0) 0 16) 1 16))), (a57, .inl (cI, 4, .inl (upd (upd (fun _ => 0) 0 16) 1 16))), (a66, .inl (cI, 2, .inl (fun _ => 0))), (a84, .inl (cI, 2, .inl (fun _ => 0))), (a82, .inl (cI, 300000, .inl (fun _ => 0)))] := hD
  subst hp
  refine lv_aload_n hx hb dL_law_813 rfl (lv_at hl 1 rfl) ?_
  refine lv_aload_n hx hb dL_law_814 rfl (lv_at hl 3 rfl) ?_
  refine lv_iload_n hx hb dL_law_815 rfl (lv_at hl 0 rfl) ?_
  refine lv_iconst (v := 1) hx hb dL_law_816 (by decide) ?_
  refine lv_iadd hx hb dL_law_817 ?_
  refine k_i 1 (by decide +kernel) ?_
  refine va_sld hx hb hX hbl hbA hS (i := 1) (k_in (k := 1) (by decide +kernel) (by decide)) dL_law_818 ?_
  refine k_i (xs 1) (congrArg xs (by decide +kernel)) ?_
  refine k_ci (wr := []) (k_rV hC hN hK hP hD (c210_X10_arm l G cI cJ cB cZ a47 a48 a49 a50 a51 a52 a53 a54 a55 a56 a57 a58 a59 a60 a61 a62 a63 a64 a65 a66 a67 a68 a69 a70 a71 a72 a73 a74 a75 a76 a77 a78 a79 a80 a81 a82 a83 a84 a85 a86 a87 a88 a89 (xs 1)) [0, 1, 2, 3, 4, 5, 6, 7, 8] rfl (by decide) mi_X10_arm in_X10_arm se_X10_arm wm_L_96 10 0 rfl rfl rfl hl.1 rfl rfl (Nat.le_of_ble_eq_true rfl) ⟨(Nat.le_of_ble_eq_true rfl), (Nat.le_of_ble_eq_true rfl)⟩ dL_law_819 ⟨(Nat.le_of_ble_eq_true rfl), (Nat.le_of_ble_eq_true rfl)⟩) hP hD hS hA [0, 1, 2, 3, 4, 5, 6, 7, 8] [] rfl rfl (by decide) (by decide) (fun r2 u2 H locs hp hP hD hS => ?_)
  have hP : va_P G cl [] H := hP
  have hD : va_D A [] := hD
  subst hp
  refine lv_icmp_eq (tgt := 1428) hx hb dL_law_822 (by decide) (fun _ => ?_) (fun c_ => absurd (by decide +kernel) c_)
  exact law_tail hC hr hlk hX hbl hbA hfo hS hl (Nat.le_of_ble_eq_true rfl) (Nat.le_of_ble_eq_true rfl)
set_option maxRecDepth 100000 in
theorem wm_L_97 : Cond.methodLink RL 97 yX9_swap ∈ gw := gm (List.mem_of_getElem? (i := 1144) (by decide +kernel)) rfl
set_option maxRecDepth 100000 in
theorem mi_X9_swap : MI yX9_swap cX9_swap 9 (some .int) 3 := ⟨gm (List.mem_of_getElem? (i := 1147) rfl) rfl, gm (List.mem_of_getElem? (i := 112) (by decide +kernel)) rfl, by decide, by decide, by decide +kernel⟩
set_option maxRecDepth 100000 in
theorem in_X9_swap : Cond.instanceMethod yX9_swap ∈ gw := gm (List.mem_of_getElem? (i := 1145) (by decide +kernel)) rfl
set_option maxRecDepth 100000 in
theorem se_X9_swap : Cond.selects yX9_swap.cls yX9_swap yX9_swap ∈ gw := gm (List.mem_of_getElem? (i := 1146) (by decide +kernel)) rfl
set_option maxRecDepth 100000 in
theorem wm_L_100 : Cond.methodLink RL 100 yX10_swap ∈ gw := gm (List.mem_of_getElem? (i := 1794) (by decide +kernel)) rfl
set_option maxRecDepth 100000 in
theorem mi_X10_swap : MI yX10_swap cX10_swap 6 (some .int) 3 := ⟨gm (List.mem_of_getElem? (i := 1797) rfl) rfl, gm (List.mem_of_getElem? (i := 124) (by decide +kernel)) rfl, by decide, by decide, by decide +kernel⟩
set_option maxRecDepth 100000 in
theorem in_X10_swap : Cond.instanceMethod yX10_swap ∈ gw := gm (List.mem_of_getElem? (i := 1795) (by decide +kernel)) rfl
set_option maxRecDepth 100000 in
theorem se_X10_swap : Cond.selects yX10_swap.cls yX10_swap yX10_swap ∈ gw := gm (List.mem_of_getElem? (i := 1796) (by decide +kernel)) rfl
set_option maxHeartbeats 4000000 in
set_option maxRecDepth 100000 in
theorem law_swap {p : Program} {l : Launch} {e : Env} {s : State} {m : MethodId} {below : List Frame} {meth : Method} {c : Code} {b : Nat} {xs : Nat → Int32} {A : Nat → Prop} {H : Heap} {locs : List Loc} {ls : Array Slot} {G : va_G} {cI cJ cB cZ : ClassId} (a0 a1 a2 a3 a4 a5 a6 a7 a8 a9 a10 a11 a12 a13 a14 a15 a16 a17 a18 a19 a20 a21 a22 a23 a24 a25 a26 a27 a28 a29 a30 a31 a32 a33 a34 a35 a36 a37 a38 a39 a40 a41 a42 a43 a44 a45 a46 a47 a48 a49 a50 a51 a52 a53 a54 a55 a56 a57 a58 a59 a60 a61 : Nat) (hC : CallFix p m c code 4 s #[Value.ref b] gw R_law) (hr : meth.sig.returnType = ret) (hlk : meth.locks = false) (hN : NW s) (hK : va_K G cl (TY cI cJ cB cZ) s) (hX : va_X b 6 xs s s.heap) (hbl : b < s.heap.size) (hA : ∀ q, s.heap.size ≤ q → A q) (hbA : ¬ A b) (hfo : ∀ q, A q → s.heap.size ≤ q) (hP : va_P G cl [(a0, .inr (9, [.ref a1, .ref a2, .ref a3, .int 0, .int 0, .ref a4, .ref a5, .ref a6, .ref a7])), (a1, .inr (7, [.int 100, .int 100, .int 0, .ref a8, .ref a9, .int 0, .ref a10, .ref a11, .ref a12, .ref a13, .ref a14, .ref a15, .ref a16, .ref a17, .ref a18])), (a19, .inr (10, [.ref a20, .ref a21, .int 0, .int 0, .int 0, .int (-1), .int 0, .int 0, .int 0, .int 0, .long 0, .ref a22, .ref a23, .ref a24, .ref a25, .ref a26, .ref a27, .ref a28, .ref a29, .ref a30, .ref a31, .ref a32, .ref a33, .ref a34, .ref a35, .ref a36, .ref a37, .ref a38, .ref a39, .ref a40, .ref a41, .ref a42, .ref a43, .ref a44, .ref a45, .ref a46, .ref a47, .ref a48, .ref a49, .ref a50, .int 0, .int 0, .ref a51, .ref a52, .int 0, .int 0, .int 0, .int 0, .ref a53, .int 0, .ref a54, .ref a55, .ref a56, .int 0, .int 0, .int 0, .int 0, .int 0, .int 0, .int 0, .int 0, .ref a57, .int 0, .ref a58, .ref a59, .ref a60, .ref a61, .int 0, .int 0])), (a31, .inl (cI, 2, .inl (fun _ => 0)))] H) (hD : va_D A [(a0, .inr (9, [.ref a1, .ref a2, .ref a3, .int 0, .int 0, .ref a4, .ref a5, .ref a6, .ref a7])), (a1, .inr (7, [.int 100, .int 100, .int 0, .ref a8, .ref a9, .int 0, .ref a10, .ref a11, .ref a12, .ref a13, .ref a14, .ref a15, .ref a16, .ref a17, .ref a18])), (a19, .inr (10, [.ref a20, .ref a21, .int 0, .int 0, .int 0, .int (-1), .int 0, .int 0, .int 0, .int 0, .long 0, .ref a22, .ref a23, .ref a24, .ref a25, .ref a26, .ref a27, .ref a28, .ref a29, .ref a30, .ref a31, .ref a32, .ref a33, .ref a34, .ref a35, .ref a36, .ref a37, .ref a38, .ref a39, .ref a40, .ref a41, .ref a42, .ref a43, .ref a44, .ref a45, .ref a46, .ref a47, .ref a48, .ref a49, .ref a50, .int 0, .int 0, .ref a51, .ref a52, .int 0, .int 0, .int 0, .int 0, .ref a53, .int 0, .ref a54, .ref a55, .ref a56, .int 0, .int 0, .int 0, .int 0, .int 0, .int 0, .int 0, .int 0, .ref a57, .int 0, .ref a58, .ref a59, .ref a60, .ref a61, .int 0, .int 0])), (a31, .inl (cI, 2, .inl (fun _ => 0)))]) (hS : va_S A s.heap H locs) (hl : lv_has ls 4 [(3, .int 0), (2, .ref a19), (1, .ref a0), (0, .ref b)]) : W p l e room_1 s m #[Value.ref b] below meth c H locs 1000 1000000 (lw_Z below #[Value.ref b] s) (F0 m 827 ls []) := by
  obtain ⟨hx, hb, hml, hown, hts⟩ := id hC
  refine lv_aload_n hx hb dL_law_827 rfl (lv_at hl 2 rfl) ?_
  refine lv_aload_n hx hb dL_law_828 rfl (lv_at hl 3 rfl) ?_
  refine lv_iload_n hx hb dL_law_829 rfl (lv_at hl 0 rfl) ?_
  refine lv_iconst (v := 1) hx hb dL_law_830 (by decide) ?_
  refine lv_iadd hx hb dL_law_831 ?_
  refine k_i 1 (by decide +kernel) ?_
  refine va_sld hx hb hX hbl hbA hS (i := 1) (k_in (k := 1) (by decide +kernel) (by decide)) dL_law_832 ?_
  refine k_i (xs 1) (congrArg xs (by decide +kernel)) ?_
  refine lv_aload_n hx hb dL_law_833 rfl (lv_at hl 3 rfl) ?_
  refine lv_iload_n hx hb dL_law_834 rfl (lv_at hl 0 rfl) ?_
  refine lv_iconst (v := 2) hx hb dL_law_835 (by decide) ?_
  refine lv_iadd hx hb dL_law_836 ?_
  refine k_i 2 (by decide +kernel) ?_
  refine va_sld hx hb hX hbl hbA hS (i := 2) (k_in (k := 2) (by decide +kernel) (by decide)) dL_law_837 ?_
  refine k_i (xs 2) (congrArg xs (by decide +kernel)) ?_
  refine lv_aload_n hx hb dL_law_838 rfl (lv_at hl 3 rfl) ?_
  refine lv_iload_n hx hb dL_law_839 rfl (lv_at hl 0 rfl) ?_
  refine lv_iconst (v := 3) hx hb dL_law_840 (by decide) ?_
  refine lv_iadd hx hb dL_law_841 ?_
  refine k_i 3 (by decide +kernel) ?_
  refine va_sld hx hb hX hbl hbA hS (i := 3) (k_in (k := 3) (by decide +kernel) (by decide)) dL_law_842 ?_
  refine k_i (xs 3) (congrArg xs (by decide +kernel)) ?_
  refine k_ci (wr := [(a19, .inr (10, [.ref a20, .ref a21, .int 0, .int 0, .int 0, .int (-1), .int 0, .int 0, .int 0, .int 0, .long 0, .ref a22, .ref a23, .ref a24, .ref a25, .ref a26, .ref a27, .ref a28, .ref a29, .ref a30, .ref a31, .ref a32, .ref a33, .ref a34, .ref a35, .ref a36, .ref a37, .ref a38, .ref a39, .ref a40, .ref a41, .ref a42, .ref a43, .ref a44, .ref a45, .ref a46, .ref a47, .ref a48, .ref a49, .ref a50, .int 0, .int 0, .ref a51, .ref a52, .int 0, .int 0, .int 0, .int 0, .ref a53, .int 0, .ref a54, .ref a55, .ref a56, .int 0, .int 0, .int 0, .int 0, .int 0, .int 0, .int 0, .int 0, .ref a57, .int 0, .ref a58, .ref a59, .ref a60, .ref a61, .int 0, .int 0])), (a31, .inl (cI, 2, .inl (fun _ => 0)))]) (k_rV hC hN hK hP hD (c104_X9_swap l G cI cJ cB cZ a0 a1 a2 a3 a4 a5 a6 a7 a8 a9 a10 a11 a12 a13 a14 a15 a16 a17 a18 (xs 1) (xs 2) (xs 3)) [0, 1] rfl (by decide) mi_X9_swap in_X9_swap se_X9_swap wm_L_97 9 0 rfl rfl rfl hl.1 rfl rfl (Nat.le_of_ble_eq_true rfl) ⟨(Nat.le_of_ble_eq_true rfl), (Nat.le_of_ble_eq_true rfl)⟩ dL_law_843 ⟨(Nat.le_of_ble_eq_true rfl), (Nat.le_of_ble_eq_true rfl)⟩) hP hD hS hA [0, 1] [2, 3] rfl rfl (by decide) (by decide) (fun r1 u1 H locs hp hP hD hS => ?_)
  have hP : va_P G cl [(a19, .inr (10, [.ref a20, .ref a21, .int 0, .int 0, .int 0, .int (-1), .int 0, .int 0, .int 0, .int 0, .long 0, .ref a22, .ref a23, .ref a24, .ref a25, .ref a26, .ref a27, .ref a28, .ref a29, .ref a30, .ref a31, .ref a32, .ref a33, .ref a34, .ref a35, .ref a36, .ref a37, .ref a38, .ref a39, .ref a40, .ref a41, .ref a42, .ref a43, .ref a44, .ref a45, .ref a46, .ref a47, .ref a48, .ref a49, .ref a50, .int 0, .int 0, .ref a51, .ref a52, .int 0, .int 0, .int 0, .int 0, .ref a53, .int 0, .ref a54, .ref a55, .ref a56, .int 0, .int 0, .int 0, .int 0, .int 0, .int 0, .int 0, .int 0, .ref a57, .int 0, .ref a58, .ref a59, .ref a60, .ref a61, .int 0, .int 0])), (a31, .inl (cI, 2, .inl (fun _ => 0)))] H := hP
  have hD : va_D A [(a19, .inr (10, [.ref a20, .ref a21, .int 0, .int 0, .int 0, .int (-1), .int 0, .int 0, .int 0, .int 0, .long 0, .ref a22, .ref a23, .ref a24, .ref a25, .ref a26, .ref a27, .ref a28, .ref a29, .ref a30, .ref a31, .ref a32, .ref a33, .ref a34, .ref a35, .ref a36, .ref a37, .ref a38, .ref a39, .ref a40, .ref a41, .ref a42, .ref a43, .ref a44, .ref a45, .ref a46, .ref a47, .ref a48, .ref a49, .ref a50, .int 0, .int 0, .ref a51, .ref a52, .int 0, .int 0, .int 0, .int 0, .ref a53, .int 0, .ref a54, .ref a55, .ref a56, .int 0, .int 0, .int 0, .int 0, .int 0, .int 0, .int 0, .int 0, .ref a57, .int 0, .ref a58, .ref a59, .ref a60, .ref a61, .int 0, .int 0])), (a31, .inl (cI, 2, .inl (fun _ => 0)))] := hD
  subst hp
  refine lv_aload_n hx hb dL_law_846 rfl (lv_at hl 1 rfl) ?_
  refine lv_aload_n hx hb dL_law_847 rfl (lv_at hl 3 rfl) ?_
  refine lv_iload_n hx hb dL_law_848 rfl (lv_at hl 0 rfl) ?_
  refine lv_iconst (v := 1) hx hb dL_law_849 (by decide) ?_
  refine lv_iadd hx hb dL_law_850 ?_
  refine k_i 1 (by decide +kernel) ?_
  refine va_sld hx hb hX hbl hbA hS (i := 1) (k_in (k := 1) (by decide +kernel) (by decide)) dL_law_851 ?_
  refine k_i (xs 1) (congrArg xs (by decide +kernel)) ?_
  refine lv_aload_n hx hb dL_law_852 rfl (lv_at hl 3 rfl) ?_
  refine lv_iload_n hx hb dL_law_853 rfl (lv_at hl 0 rfl) ?_
  refine lv_iconst (v := 2) hx hb dL_law_854 (by decide) ?_
  refine lv_iadd hx hb dL_law_855 ?_
  refine k_i 2 (by decide +kernel) ?_
  refine va_sld hx hb hX hbl hbA hS (i := 2) (k_in (k := 2) (by decide +kernel) (by decide)) dL_law_856 ?_
  refine k_i (xs 2) (congrArg xs (by decide +kernel)) ?_
  refine lv_aload_n hx hb dL_law_857 rfl (lv_at hl 3 rfl) ?_
  refine lv_iload_n hx hb dL_law_858 rfl (lv_at hl 0 rfl) ?_
  refine lv_iconst (v := 3) hx hb dL_law_859 (by decide) ?_
  refine lv_iadd hx hb dL_law_860 ?_
  refine k_i 3 (by decide +kernel) ?_
  refine va_sld hx hb hX hbl hbA hS (i := 3) (k_in (k := 3) (by decide +kernel) (by decide)) dL_law_861 ?_
  refine k_i (xs 3) (congrArg xs (by decide +kernel)) ?_
  refine k_ci (wr := []) (k_rV hC hN hK hP hD (c211_X10_swap l G cI cJ cB cZ a19 a20 a21 a22 a23 a24 a25 a26 a27 a28 a29 a30 a31 a32 a33 a34 a35 a36 a37 a38 a39 a40 a41 a42 a43 a44 a45 a46 a47 a48 a49 a50 a51 a52 a53 a54 a55 a56 a57 a58 a59 a60 a61 (xs 1) (xs 2) (xs 3)) [0, 1] rfl (by decide) mi_X10_swap in_X10_swap se_X10_swap wm_L_100 10 0 rfl rfl rfl hl.1 rfl rfl (Nat.le_of_ble_eq_true rfl) ⟨(Nat.le_of_ble_eq_true rfl), (Nat.le_of_ble_eq_true rfl)⟩ dL_law_862 ⟨(Nat.le_of_ble_eq_true rfl), (Nat.le_of_ble_eq_true rfl)⟩) hP hD hS hA [0, 1] [] rfl rfl (by decide) (by decide) (fun r2 u2 H locs hp hP hD hS => ?_)
  have hP : va_P G cl [] H := hP
  have hD : va_D A [] := hD
  subst hp
  refine lv_icmp_eq (tgt := 1428) hx hb dL_law_865 (by decide) (fun _ => ?_) (fun c_ => absurd (by decide +kernel) c_)
  exact law_tail hC hr hlk hX hbl hbA hfo hS hl (Nat.le_of_ble_eq_true rfl) (Nat.le_of_ble_eq_true rfl)
set_option maxRecDepth 100000 in
theorem wm_L_101 : Cond.methodLink RL 101 yX9_owed ∈ gw := gm (List.mem_of_getElem? (i := 1148) (by decide +kernel)) rfl
set_option maxRecDepth 100000 in
theorem mi_X9_owed : MI yX9_owed cX9_owed 6 (some .int) 3 := ⟨gm (List.mem_of_getElem? (i := 1151) rfl) rfl, gm (List.mem_of_getElem? (i := 112) (by decide +kernel)) rfl, by decide, by decide, by decide +kernel⟩
set_option maxRecDepth 100000 in
theorem in_X9_owed : Cond.instanceMethod yX9_owed ∈ gw := gm (List.mem_of_getElem? (i := 1149) (by decide +kernel)) rfl
set_option maxRecDepth 100000 in
theorem se_X9_owed : Cond.selects yX9_owed.cls yX9_owed yX9_owed ∈ gw := gm (List.mem_of_getElem? (i := 1150) (by decide +kernel)) rfl
set_option maxRecDepth 100000 in
theorem wm_L_104 : Cond.methodLink RL 104 yX10_owed ∈ gw := gm (List.mem_of_getElem? (i := 1798) (by decide +kernel)) rfl
set_option maxRecDepth 100000 in
theorem mi_X10_owed : MI yX10_owed cX10_owed 5 (some .int) 3 := ⟨gm (List.mem_of_getElem? (i := 1801) rfl) rfl, gm (List.mem_of_getElem? (i := 124) (by decide +kernel)) rfl, by decide, by decide, by decide +kernel⟩
set_option maxRecDepth 100000 in
theorem in_X10_owed : Cond.instanceMethod yX10_owed ∈ gw := gm (List.mem_of_getElem? (i := 1799) (by decide +kernel)) rfl
set_option maxRecDepth 100000 in
theorem se_X10_owed : Cond.selects yX10_owed.cls yX10_owed yX10_owed ∈ gw := gm (List.mem_of_getElem? (i := 1800) (by decide +kernel)) rfl
set_option maxHeartbeats 4000000 in
set_option maxRecDepth 100000 in
theorem law_owed {p : Program} {l : Launch} {e : Env} {s : State} {m : MethodId} {below : List Frame} {meth : Method} {c : Code} {b : Nat} {xs : Nat → Int32} {A : Nat → Prop} {H : Heap} {locs : List Loc} {ls : Array Slot} {G : va_G} {cI cJ cB cZ : ClassId} (a0 a1 a2 a3 a4 a5 a6 a7 a8 a9 a10 a11 a12 a13 a14 a15 a16 a17 a18 a19 a20 a21 a22 a23 a24 a25 a26 a27 a28 a29 a30 a31 a32 a33 a34 a35 a36 a37 a38 a39 a40 a41 a42 a43 a44 a45 a46 a47 a48 a49 a50 a51 a52 a53 a54 a55 a56 a57 a58 a59 a60 a61 a62 a63 a64 a65 : Nat) (hC : CallFix p m c code 4 s #[Value.ref b] gw R_law) (hr : meth.sig.returnType = ret) (hlk : meth.locks = false) (hN : NW s) (hK : va_K G cl (TY cI cJ cB cZ) s) (hX : va_X b 6 xs s s.heap) (hbl : b < s.heap.size) (hA : ∀ q, s.heap.size ≤ q → A q) (hbA : ¬ A b) (hfo : ∀ q, A q → s.heap.size ≤ q) (hP : va_P G cl [(a0, .inr (9, [.ref a1, .ref a2, .ref a3, .int 0, .int 0, .ref a4, .ref a5, .ref a6, .ref a7])), (a1, .inr (7, [.int 100, .int 100, .int 0, .ref a8, .ref a9, .int 0, .ref a10, .ref a11, .ref a12, .ref a13, .ref a14, .ref a15, .ref a16, .ref a17, .ref a18])), (a18, .inr (3, [.ref a19, .ref a20, .ref a21, .ref a22, .int 0])), (a23, .inr (10, [.ref a24, .ref a25, .int 0, .int 0, .int 0, .int (-1), .int 0, .int 0, .int 0, .int 0, .long 0, .ref a26, .ref a27, .ref a28, .ref a29, .ref a30, .ref a31, .ref a32, .ref a33, .ref a34, .ref a35, .ref a36, .ref a37, .ref a38, .ref a39, .ref a40, .ref a41, .ref a42, .ref a43, .ref a44, .ref a45, .ref a46, .ref a47, .ref a48, .ref a49, .ref a50, .ref a51, .ref a52, .ref a53, .ref a54, .int 0, .int 0, .ref a55, .ref a56, .int 0, .int 0, .int 0, .int 0, .ref a57, .int 0, .ref a58, .ref a59, .ref a60, .int 0, .int 0, .int 0, .int 0, .int 0, .int 0, .int 0, .int 0, .ref a61, .int 0, .ref a62, .ref a63, .ref a64, .ref a65, .int 0, .int 0])), (a43, .inl (cI, 2, .inl (fun _ => 0)))] H) (hD : va_D A [(a0, .inr (9, [.ref a1, .ref a2, .ref a3, .int 0, .int 0, .ref a4, .ref a5, .ref a6, .ref a7])), (a1, .inr (7, [.int 100, .int 100, .int 0, .ref a8, .ref a9, .int 0, .ref a10, .ref a11, .ref a12, .ref a13, .ref a14, .ref a15, .ref a16, .ref a17, .ref a18])), (a18, .inr (3, [.ref a19, .ref a20, .ref a21, .ref a22, .int 0])), (a23, .inr (10, [.ref a24, .ref a25, .int 0, .int 0, .int 0, .int (-1), .int 0, .int 0, .int 0, .int 0, .long 0, .ref a26, .ref a27, .ref a28, .ref a29, .ref a30, .ref a31, .ref a32, .ref a33, .ref a34, .ref a35, .ref a36, .ref a37, .ref a38, .ref a39, .ref a40, .ref a41, .ref a42, .ref a43, .ref a44, .ref a45, .ref a46, .ref a47, .ref a48, .ref a49, .ref a50, .ref a51, .ref a52, .ref a53, .ref a54, .int 0, .int 0, .ref a55, .ref a56, .int 0, .int 0, .int 0, .int 0, .ref a57, .int 0, .ref a58, .ref a59, .ref a60, .int 0, .int 0, .int 0, .int 0, .int 0, .int 0, .int 0, .int 0, .ref a61, .int 0, .ref a62, .ref a63, .ref a64, .ref a65, .int 0, .int 0])), (a43, .inl (cI, 2, .inl (fun _ => 0)))]) (hS : va_S A s.heap H locs) (hl : lv_has ls 4 [(3, .int 0), (2, .ref a23), (1, .ref a0), (0, .ref b)]) : W p l e room_1 s m #[Value.ref b] below meth c H locs 1000 1000000 (lw_Z below #[Value.ref b] s) (F0 m 870 ls []) := by
  obtain ⟨hx, hb, hml, hown, hts⟩ := id hC
  refine lv_aload_n hx hb dL_law_870 rfl (lv_at hl 2 rfl) ?_
  refine lv_aload_n hx hb dL_law_871 rfl (lv_at hl 3 rfl) ?_
  refine lv_iload_n hx hb dL_law_872 rfl (lv_at hl 0 rfl) ?_
  refine lv_iconst (v := 1) hx hb dL_law_873 (by decide) ?_
  refine lv_iadd hx hb dL_law_874 ?_
  refine k_i 1 (by decide +kernel) ?_
  refine va_sld hx hb hX hbl hbA hS (i := 1) (k_in (k := 1) (by decide +kernel) (by decide)) dL_law_875 ?_
  refine k_i (xs 1) (congrArg xs (by decide +kernel)) ?_
  refine lv_aload_n hx hb dL_law_876 rfl (lv_at hl 3 rfl) ?_
  refine lv_iload_n hx hb dL_law_877 rfl (lv_at hl 0 rfl) ?_
  refine lv_iconst (v := 2) hx hb dL_law_878 (by decide) ?_
  refine lv_iadd hx hb dL_law_879 ?_
  refine k_i 2 (by decide +kernel) ?_
  refine va_sld hx hb hX hbl hbA hS (i := 2) (k_in (k := 2) (by decide +kernel) (by decide)) dL_law_880 ?_
  refine k_i (xs 2) (congrArg xs (by decide +kernel)) ?_
  refine lv_if_eq (tgt := 888) hx hb dL_law_881 (by decide) (fun c_1 => ?_) (fun c_1 => ?_)
  · have d_1 : (xs 2).toInt = 0 := (fa_eq _ _).mp c_1
    refine lv_iconst (v := 0) hx hb dL_law_888 (by decide) ?_
    refine lv_aload_n hx hb dL_law_889 rfl (lv_at hl 3 rfl) ?_
    refine lv_iload_n hx hb dL_law_890 rfl (lv_at hl 0 rfl) ?_
    refine lv_iconst (v := 3) hx hb dL_law_891 (by decide) ?_
    refine lv_iadd hx hb dL_law_892 ?_
    refine k_i 3 (by decide +kernel) ?_
    refine va_sld hx hb hX hbl hbA hS (i := 3) (k_in (k := 3) (by decide +kernel) (by decide)) dL_law_893 ?_
    refine k_i (xs 3) (congrArg xs (by decide +kernel)) ?_
    refine k_ci (wr := [(a23, .inr (10, [.ref a24, .ref a25, .int 0, .int 0, .int 0, .int (-1), .int 0, .int 0, .int 0, .int 0, .long 0, .ref a26, .ref a27, .ref a28, .ref a29, .ref a30, .ref a31, .ref a32, .ref a33, .ref a34, .ref a35, .ref a36, .ref a37, .ref a38, .ref a39, .ref a40, .ref a41, .ref a42, .ref a43, .ref a44, .ref a45, .ref a46, .ref a47, .ref a48, .ref a49, .ref a50, .ref a51, .ref a52, .ref a53, .ref a54, .int 0, .int 0, .ref a55, .ref a56, .int 0, .int 0, .int 0, .int 0, .ref a57, .int 0, .ref a58, .ref a59, .ref a60, .int 0, .int 0, .int 0, .int 0, .int 0, .int 0, .int 0, .int 0, .ref a61, .int 0, .ref a62, .ref a63, .ref a64, .ref a65, .int 0, .int 0])), (a43, .inl (cI, 2, .inl (fun _ => 0)))]) (k_rV hC hN hK hP hD (c105_X9_owed l G cI cJ cB cZ a0 a1 a2 a3 a4 a5 a6 a7 a8 a9 a10 a11 a12 a13 a14 a15 a16 a17 a18 a19 a20 a21 a22 (xs 1) 0 (xs 3)) [0, 1, 2] rfl (by decide) mi_X9_owed in_X9_owed se_X9_owed wm_L_101 9 0 rfl rfl rfl hl.1 rfl rfl (Nat.le_of_ble_eq_true rfl) ⟨(Nat.le_of_ble_eq_true rfl), (Nat.le_of_ble_eq_true rfl)⟩ dL_law_894 ⟨(Nat.le_of_ble_eq_true rfl), (Nat.le_of_ble_eq_true rfl)⟩) hP hD hS hA [0, 1, 2] [3, 4] rfl rfl (by decide) (by decide) (fun r2 u2 H locs hp hP hD hS => ?_)
    have hP : va_P G cl [(a23, .inr (10, [.ref a24, .ref a25, .int 0, .int 0, .int 0, .int (-1), .int 0, .int 0, .int 0, .int 0, .long 0, .ref a26, .ref a27, .ref a28, .ref a29, .ref a30, .ref a31, .ref a32, .ref a33, .ref a34, .ref a35, .ref a36, .ref a37, .ref a38, .ref a39, .ref a40, .ref a41, .ref a42, .ref a43, .ref a44, .ref a45, .ref a46, .ref a47, .ref a48, .ref a49, .ref a50, .ref a51, .ref a52, .ref a53, .ref a54, .int 0, .int 0, .ref a55, .ref a56, .int 0, .int 0, .int 0, .int 0, .ref a57, .int 0, .ref a58, .ref a59, .ref a60, .int 0, .int 0, .int 0, .int 0, .int 0, .int 0, .int 0, .int 0, .ref a61, .int 0, .ref a62, .ref a63, .ref a64, .ref a65, .int 0, .int 0])), (a43, .inl (cI, 2, .inl (fun _ => 0)))] H := hP
    have hD : va_D A [(a23, .inr (10, [.ref a24, .ref a25, .int 0, .int 0, .int 0, .int (-1), .int 0, .int 0, .int 0, .int 0, .long 0, .ref a26, .ref a27, .ref a28, .ref a29, .ref a30, .ref a31, .ref a32, .ref a33, .ref a34, .ref a35, .ref a36, .ref a37, .ref a38, .ref a39, .ref a40, .ref a41, .ref a42, .ref a43, .ref a44, .ref a45, .ref a46, .ref a47, .ref a48, .ref a49, .ref a50, .ref a51, .ref a52, .ref a53, .ref a54, .int 0, .int 0, .ref a55, .ref a56, .int 0, .int 0, .int 0, .int 0, .ref a57, .int 0, .ref a58, .ref a59, .ref a60, .int 0, .int 0, .int 0, .int 0, .int 0, .int 0, .int 0, .int 0, .ref a61, .int 0, .ref a62, .ref a63, .ref a64, .ref a65, .int 0, .int 0])), (a43, .inl (cI, 2, .inl (fun _ => 0)))] := hD
    subst hp
    refine lv_aload_n hx hb dL_law_897 rfl (lv_at hl 1 rfl) ?_
    refine lv_aload_n hx hb dL_law_898 rfl (lv_at hl 3 rfl) ?_
    refine lv_iload_n hx hb dL_law_899 rfl (lv_at hl 0 rfl) ?_
    refine lv_iconst (v := 1) hx hb dL_law_900 (by decide) ?_
    refine lv_iadd hx hb dL_law_901 ?_
    refine k_i 1 (by decide +kernel) ?_
    refine va_sld hx hb hX hbl hbA hS (i := 1) (k_in (k := 1) (by decide +kernel) (by decide)) dL_law_902 ?_
    refine k_i (xs 1) (congrArg xs (by decide +kernel)) ?_
    refine lv_aload_n hx hb dL_law_903 rfl (lv_at hl 3 rfl) ?_
    refine lv_iload_n hx hb dL_law_904 rfl (lv_at hl 0 rfl) ?_
    refine lv_iconst (v := 2) hx hb dL_law_905 (by decide) ?_
    refine lv_iadd hx hb dL_law_906 ?_
    refine k_i 2 (by decide +kernel) ?_
    refine va_sld hx hb hX hbl hbA hS (i := 2) (k_in (k := 2) (by decide +kernel) (by decide)) dL_law_907 ?_
    refine k_i (xs 2) (congrArg xs (by decide +kernel)) ?_
    refine lv_if_eq (tgt := 915) hx hb dL_law_908 (by decide) (fun c_3 => ?_) (fun c_3 => by have d_3 : (xs 2).toInt ≠ 0 := fa_ne c_3; omega)
    have d_3 : (xs 2).toInt = 0 := (fa_eq _ _).mp c_3
    refine lv_iconst (v := 0) hx hb dL_law_915 (by decide) ?_
    refine lv_aload_n hx hb dL_law_916 rfl (lv_at hl 3 rfl) ?_
    refine lv_iload_n hx hb dL_law_917 rfl (lv_at hl 0 rfl) ?_
    refine lv_iconst (v := 3) hx hb dL_law_918 (by decide) ?_
    refine lv_iadd hx hb dL_law_919 ?_
    refine k_i 3 (by decide +kernel) ?_
    refine va_sld hx hb hX hbl hbA hS (i := 3) (k_in (k := 3) (by decide +kernel) (by decide)) dL_law_920 ?_
    refine k_i (xs 3) (congrArg xs (by decide +kernel)) ?_
    refine k_ci (wr := []) (k_rV hC hN hK hP hD (c212_X10_owed l G cI cJ cB cZ a23 a24 a25 a26 a27 a28 a29 a30 a31 a32 a33 a34 a35 a36 a37 a38 a39 a40 a41 a42 a43 a44 a45 a46 a47 a48 a49 a50 a51 a52 a53 a54 a55 a56 a57 a58 a59 a60 a61 a62 a63 a64 a65 (xs 1) 0 (xs 3)) [0, 1] rfl (by decide) mi_X10_owed in_X10_owed se_X10_owed wm_L_104 10 0 rfl rfl rfl hl.1 rfl rfl (Nat.le_of_ble_eq_true rfl) ⟨(Nat.le_of_ble_eq_true rfl), (Nat.le_of_ble_eq_true rfl)⟩ dL_law_921 ⟨(Nat.le_of_ble_eq_true rfl), (Nat.le_of_ble_eq_true rfl)⟩) hP hD hS hA [0, 1] [] rfl rfl (by decide) (by decide) (fun r4 u4 H locs hp hP hD hS => ?_)
    have hP : va_P G cl [] H := hP
    have hD : va_D A [] := hD
    subst hp
    refine lv_icmp_eq (tgt := 1428) hx hb dL_law_924 (by decide) (fun _ => ?_) (fun c_ => absurd (by decide +kernel) c_)
    exact law_tail hC hr hlk hX hbl hbA hfo hS hl (Nat.le_of_ble_eq_true rfl) (Nat.le_of_ble_eq_true rfl)
  · have d_1 : (xs 2).toInt ≠ 0 := fa_ne c_1
    refine lv_iconst (v := 1) hx hb dL_law_884 (by decide) ?_
    refine lv_goto (tgt := 889) hx hb dL_law_885 (by decide) ?_
    refine lv_aload_n hx hb dL_law_889 rfl (lv_at hl 3 rfl) ?_
    refine lv_iload_n hx hb dL_law_890 rfl (lv_at hl 0 rfl) ?_
    refine lv_iconst (v := 3) hx hb dL_law_891 (by decide) ?_
    refine lv_iadd hx hb dL_law_892 ?_
    refine k_i 3 (by decide +kernel) ?_
    refine va_sld hx hb hX hbl hbA hS (i := 3) (k_in (k := 3) (by decide +kernel) (by decide)) dL_law_893 ?_
    refine k_i (xs 3) (congrArg xs (by decide +kernel)) ?_
    refine k_ci (wr := [(a23, .inr (10, [.ref a24, .ref a25, .int 0, .int 0, .int 0, .int (-1), .int 0, .int 0, .int 0, .int 0, .long 0, .ref a26, .ref a27, .ref a28, .ref a29, .ref a30, .ref a31, .ref a32, .ref a33, .ref a34, .ref a35, .ref a36, .ref a37, .ref a38, .ref a39, .ref a40, .ref a41, .ref a42, .ref a43, .ref a44, .ref a45, .ref a46, .ref a47, .ref a48, .ref a49, .ref a50, .ref a51, .ref a52, .ref a53, .ref a54, .int 0, .int 0, .ref a55, .ref a56, .int 0, .int 0, .int 0, .int 0, .ref a57, .int 0, .ref a58, .ref a59, .ref a60, .int 0, .int 0, .int 0, .int 0, .int 0, .int 0, .int 0, .int 0, .ref a61, .int 0, .ref a62, .ref a63, .ref a64, .ref a65, .int 0, .int 0])), (a43, .inl (cI, 2, .inl (fun _ => 0)))]) (k_rV hC hN hK hP hD (c105_X9_owed l G cI cJ cB cZ a0 a1 a2 a3 a4 a5 a6 a7 a8 a9 a10 a11 a12 a13 a14 a15 a16 a17 a18 a19 a20 a21 a22 (xs 1) 1 (xs 3)) [0, 1, 2] rfl (by decide) mi_X9_owed in_X9_owed se_X9_owed wm_L_101 9 0 rfl rfl rfl hl.1 rfl rfl (Nat.le_of_ble_eq_true rfl) ⟨(Nat.le_of_ble_eq_true rfl), (Nat.le_of_ble_eq_true rfl)⟩ dL_law_894 ⟨(Nat.le_of_ble_eq_true rfl), (Nat.le_of_ble_eq_true rfl)⟩) hP hD hS hA [0, 1, 2] [3, 4] rfl rfl (by decide) (by decide) (fun r5 u5 H locs hp hP hD hS => ?_)
    have hP : va_P G cl [(a23, .inr (10, [.ref a24, .ref a25, .int 0, .int 0, .int 0, .int (-1), .int 0, .int 0, .int 0, .int 0, .long 0, .ref a26, .ref a27, .ref a28, .ref a29, .ref a30, .ref a31, .ref a32, .ref a33, .ref a34, .ref a35, .ref a36, .ref a37, .ref a38, .ref a39, .ref a40, .ref a41, .ref a42, .ref a43, .ref a44, .ref a45, .ref a46, .ref a47, .ref a48, .ref a49, .ref a50, .ref a51, .ref a52, .ref a53, .ref a54, .int 0, .int 0, .ref a55, .ref a56, .int 0, .int 0, .int 0, .int 0, .ref a57, .int 0, .ref a58, .ref a59, .ref a60, .int 0, .int 0, .int 0, .int 0, .int 0, .int 0, .int 0, .int 0, .ref a61, .int 0, .ref a62, .ref a63, .ref a64, .ref a65, .int 0, .int 0])), (a43, .inl (cI, 2, .inl (fun _ => 0)))] H := hP
    have hD : va_D A [(a23, .inr (10, [.ref a24, .ref a25, .int 0, .int 0, .int 0, .int (-1), .int 0, .int 0, .int 0, .int 0, .long 0, .ref a26, .ref a27, .ref a28, .ref a29, .ref a30, .ref a31, .ref a32, .ref a33, .ref a34, .ref a35, .ref a36, .ref a37, .ref a38, .ref a39, .ref a40, .ref a41, .ref a42, .ref a43, .ref a44, .ref a45, .ref a46, .ref a47, .ref a48, .ref a49, .ref a50, .ref a51, .ref a52, .ref a53, .ref a54, .int 0, .int 0, .ref a55, .ref a56, .int 0, .int 0, .int 0, .int 0, .ref a57, .int 0, .ref a58, .ref a59, .ref a60, .int 0, .int 0, .int 0, .int 0, .int 0, .int 0, .int 0, .int 0, .ref a61, .int 0, .ref a62, .ref a63, .ref a64, .ref a65, .int 0, .int 0])), (a43, .inl (cI, 2, .inl (fun _ => 0)))] := hD
    subst hp
    refine lv_aload_n hx hb dL_law_897 rfl (lv_at hl 1 rfl) ?_
    refine lv_aload_n hx hb dL_law_898 rfl (lv_at hl 3 rfl) ?_
    refine lv_iload_n hx hb dL_law_899 rfl (lv_at hl 0 rfl) ?_
    refine lv_iconst (v := 1) hx hb dL_law_900 (by decide) ?_
    refine lv_iadd hx hb dL_law_901 ?_
    refine k_i 1 (by decide +kernel) ?_
    refine va_sld hx hb hX hbl hbA hS (i := 1) (k_in (k := 1) (by decide +kernel) (by decide)) dL_law_902 ?_
    refine k_i (xs 1) (congrArg xs (by decide +kernel)) ?_
    refine lv_aload_n hx hb dL_law_903 rfl (lv_at hl 3 rfl) ?_
    refine lv_iload_n hx hb dL_law_904 rfl (lv_at hl 0 rfl) ?_
    refine lv_iconst (v := 2) hx hb dL_law_905 (by decide) ?_
    refine lv_iadd hx hb dL_law_906 ?_
    refine k_i 2 (by decide +kernel) ?_
    refine va_sld hx hb hX hbl hbA hS (i := 2) (k_in (k := 2) (by decide +kernel) (by decide)) dL_law_907 ?_
    refine k_i (xs 2) (congrArg xs (by decide +kernel)) ?_
    refine lv_if_eq (tgt := 915) hx hb dL_law_908 (by decide) (fun c_6 => by have d_6 : (xs 2).toInt = 0 := (fa_eq _ _).mp c_6; omega) (fun c_6 => ?_)
    have d_6 : (xs 2).toInt ≠ 0 := fa_ne c_6
    refine lv_iconst (v := 1) hx hb dL_law_911 (by decide) ?_
    refine lv_goto (tgt := 916) hx hb dL_law_912 (by decide) ?_
    refine lv_aload_n hx hb dL_law_916 rfl (lv_at hl 3 rfl) ?_
    refine lv_iload_n hx hb dL_law_917 rfl (lv_at hl 0 rfl) ?_
    refine lv_iconst (v := 3) hx hb dL_law_918 (by decide) ?_
    refine lv_iadd hx hb dL_law_919 ?_
    refine k_i 3 (by decide +kernel) ?_
    refine va_sld hx hb hX hbl hbA hS (i := 3) (k_in (k := 3) (by decide +kernel) (by decide)) dL_law_920 ?_
    refine k_i (xs 3) (congrArg xs (by decide +kernel)) ?_
    refine k_ci (wr := []) (k_rV hC hN hK hP hD (c212_X10_owed l G cI cJ cB cZ a23 a24 a25 a26 a27 a28 a29 a30 a31 a32 a33 a34 a35 a36 a37 a38 a39 a40 a41 a42 a43 a44 a45 a46 a47 a48 a49 a50 a51 a52 a53 a54 a55 a56 a57 a58 a59 a60 a61 a62 a63 a64 a65 (xs 1) 1 (xs 3)) [0, 1] rfl (by decide) mi_X10_owed in_X10_owed se_X10_owed wm_L_104 10 0 rfl rfl rfl hl.1 rfl rfl (Nat.le_of_ble_eq_true rfl) ⟨(Nat.le_of_ble_eq_true rfl), (Nat.le_of_ble_eq_true rfl)⟩ dL_law_921 ⟨(Nat.le_of_ble_eq_true rfl), (Nat.le_of_ble_eq_true rfl)⟩) hP hD hS hA [0, 1] [] rfl rfl (by decide) (by decide) (fun r7 u7 H locs hp hP hD hS => ?_)
    have hP : va_P G cl [] H := hP
    have hD : va_D A [] := hD
    subst hp
    refine lv_icmp_eq (tgt := 1428) hx hb dL_law_924 (by decide) (fun _ => ?_) (fun c_ => absurd (by decide +kernel) c_)
    exact law_tail hC hr hlk hX hbl hbA hfo hS hl (Nat.le_of_ble_eq_true rfl) (Nat.le_of_ble_eq_true rfl)
set_option maxRecDepth 100000 in
theorem wm_L_105 : Cond.methodLink RL 105 yX9_debt ∈ gw := gm (List.mem_of_getElem? (i := 1161) (by decide +kernel)) rfl
set_option maxRecDepth 100000 in
theorem mi_X9_debt : MI yX9_debt cX9_debt 6 (some .int) 3 := ⟨gm (List.mem_of_getElem? (i := 1164) rfl) rfl, gm (List.mem_of_getElem? (i := 112) (by decide +kernel)) rfl, by decide, by decide, by decide +kernel⟩
set_option maxRecDepth 100000 in
theorem in_X9_debt : Cond.instanceMethod yX9_debt ∈ gw := gm (List.mem_of_getElem? (i := 1162) (by decide +kernel)) rfl
set_option maxRecDepth 100000 in
theorem se_X9_debt : Cond.selects yX9_debt.cls yX9_debt yX9_debt ∈ gw := gm (List.mem_of_getElem? (i := 1163) (by decide +kernel)) rfl
set_option maxRecDepth 100000 in
theorem wm_L_108 : Cond.methodLink RL 108 yX10_debt ∈ gw := gm (List.mem_of_getElem? (i := 1807) (by decide +kernel)) rfl
set_option maxRecDepth 100000 in
theorem mi_X10_debt : MI yX10_debt cX10_debt 7 (some .int) 3 := ⟨gm (List.mem_of_getElem? (i := 1810) rfl) rfl, gm (List.mem_of_getElem? (i := 124) (by decide +kernel)) rfl, by decide, by decide, by decide +kernel⟩
set_option maxRecDepth 100000 in
theorem in_X10_debt : Cond.instanceMethod yX10_debt ∈ gw := gm (List.mem_of_getElem? (i := 1808) (by decide +kernel)) rfl
set_option maxRecDepth 100000 in
theorem se_X10_debt : Cond.selects yX10_debt.cls yX10_debt yX10_debt ∈ gw := gm (List.mem_of_getElem? (i := 1809) (by decide +kernel)) rfl
set_option maxHeartbeats 4000000 in
set_option maxRecDepth 100000 in
theorem law_debt {p : Program} {l : Launch} {e : Env} {s : State} {m : MethodId} {below : List Frame} {meth : Method} {c : Code} {b : Nat} {xs : Nat → Int32} {A : Nat → Prop} {H : Heap} {locs : List Loc} {ls : Array Slot} {G : va_G} {cI cJ cB cZ : ClassId} (a0 a1 a2 a3 a4 a5 a6 a7 a8 a9 a10 a11 a12 a13 a14 a15 a16 a17 a18 a19 a20 a21 a22 a23 a24 a25 a26 a27 a28 a29 a30 a31 a32 a33 a34 a35 a36 a37 a38 a39 a40 a41 a42 a43 a44 a45 a46 a47 a48 a49 a50 a51 a52 a53 a54 a55 a56 a57 a58 a59 a60 a61 a62 a63 a64 a65 a66 a67 a68 a69 a70 a71 a72 a73 a74 a75 a76 a77 a78 a79 a80 a81 a82 a83 a84 a85 a86 a87 a88 a89 a90 a91 a92 a93 : Nat) (hC : CallFix p m c code 4 s #[Value.ref b] gw R_law) (hr : meth.sig.returnType = ret) (hlk : meth.locks = false) (hN : NW s) (hK : va_K G cl (TY cI cJ cB cZ) s) (hX : va_X b 6 xs s s.heap) (hbl : b < s.heap.size) (hA : ∀ q, s.heap.size ≤ q → A q) (hbA : ¬ A b) (hfo : ∀ q, A q → s.heap.size ≤ q) (hP : va_P G cl [(a0, .inr (9, [.ref a1, .ref a2, .ref a3, .int 0, .int 0, .ref a4, .ref a5, .ref a6, .ref a7])), (a1, .inr (7, [.int 100, .int 100, .int 0, .ref a8, .ref a9, .int 0, .ref a10, .ref a11, .ref a12, .ref a13, .ref a14, .ref a15, .ref a16, .ref a17, .ref a18])), (a9, .inl (cI, 2, .inl (upd (upd (fun _ => 0) 0 16) 1 16))), (a8, .inl (cI, 2, .inl (upd (upd (fun _ => 0) 0 16) 1 16))), (a17, .inr (8, [.ref a19, .ref a20, .ref a21, .ref a22, .ref a23, .ref a24, .ref a25, .int 0])), (a3, .inr (8, [.ref a26, .ref a27, .ref a28, .ref a29, .ref a30, .ref a31, .ref a32, .int 0])), (a5, .inr (0, [.ref a33, .int 0, .int 0, .long 0, .int 0, .int 0, .long 0])), (a4, .inr (4, [.ref a34, .ref a5, .ref a35, .ref a36, .ref a37, .ref a38, .ref a39, .int 100, .int 0, .int 0, .int (-1)])), (a35, .inr (8, [.ref a40, .ref a41, .ref a42, .ref a43, .ref a44, .ref a45, .ref a46, .int 0])), (a36, .inl (cI, 7, .inl (fun _ => 0))), (a33, .inl (cJ, 256, .inr (.inl (fun _ => 0)))), (a7, .inr (1, [.int 0, .int 0, .int 0, .int 0, .int 0])), (a18, .inr (3, [.ref a47, .ref a48, .ref a49, .ref a50, .int 0])), (a51, .inr (10, [.ref a52, .ref a53, .int 0, .int 0, .int 0, .int (-1), .int 0, .int 0, .int 0, .int 0, .long 0, .ref a54, .ref a55, .ref a56, .ref a57, .ref a58, .ref a59, .ref a60, .ref a61, .ref a62, .ref a63, .ref a64, .ref a65, .ref a66, .ref a67, .ref a68, .ref a69, .ref a70, .ref a71, .ref a72, .ref a73, .ref a74, .ref a75, .ref a76, .ref a77, .ref a78, .ref a79, .ref a80, .ref a81, .ref a82, .int 0, .int 0, .ref a83, .ref a84, .int 0, .int 0, .int 0, .int 0, .ref a85, .int 0, .ref a86, .ref a87, .ref a88, .int 0, .int 0, .int 0, .int 0, .int 0, .int 0, .int 0, .int 0, .ref a89, .int 0, .ref a90, .ref a91, .ref a92, .ref a93, .int 0, .int 0])), (a59, .inl (cI, 2, .inl (upd (fun _ => 0) 0 100))), (a58, .inl (cI, 2, .inl (upd (fun _ => 0) 0 100))), (a62, .inl (cI, 4, .inl (upd (upd (fun _ => 0) 0 16) 1 16))), (a61, .inl (cI, 4, .inl (upd (upd (fun _ => 0) 0 16) 1 16))), (a63, .inl (cI, 2, .inl (fun _ => 0))), (a70, .inl (cI, 2, .inl (fun _ => 0))), (a88, .inl (cI, 2, .inl (fun _ => 0))), (a86, .inl (cI, 300000, .inl (fun _ => 0))), (a71, .inl (cI, 2, .inl (fun _ => 0)))] H) (hD : va_D A [(a0, .inr (9, [.ref a1, .ref a2, .ref a3, .int 0, .int 0, .ref a4, .ref a5, .ref a6, .ref a7])), (a1, .inr (7, [.int 100, .int 100, .int 0, .ref a8, .ref a9, .int 0, .ref a10, .ref a11, .ref a12, .ref a13, .ref a14, .ref a15, .ref a16, .ref a17, .ref a18])), (a9, .inl (cI, 2, .inl (upd (upd (fun _ => 0) 0 16) 1 16))), (a8, .inl (cI, 2, .inl (upd (upd (fun _ => 0) 0 16) 1 16))), (a17, .inr (8, [.ref a19, .ref a20, .ref a21, .ref a22, .ref a23, .ref a24, .ref a25, .int 0])), (a3, .inr (8, [.ref a26, .ref a27, .ref a28, .ref a29, .ref a30, .ref a31, .ref a32, .int 0])), (a5, .inr (0, [.ref a33, .int 0, .int 0, .long 0, .int 0, .int 0, .long 0])), (a4, .inr (4, [.ref a34, .ref a5, .ref a35, .ref a36, .ref a37, .ref a38, .ref a39, .int 100, .int 0, .int 0, .int (-1)])), (a35, .inr (8, [.ref a40, .ref a41, .ref a42, .ref a43, .ref a44, .ref a45, .ref a46, .int 0])), (a36, .inl (cI, 7, .inl (fun _ => 0))), (a33, .inl (cJ, 256, .inr (.inl (fun _ => 0)))), (a7, .inr (1, [.int 0, .int 0, .int 0, .int 0, .int 0])), (a18, .inr (3, [.ref a47, .ref a48, .ref a49, .ref a50, .int 0])), (a51, .inr (10, [.ref a52, .ref a53, .int 0, .int 0, .int 0, .int (-1), .int 0, .int 0, .int 0, .int 0, .long 0, .ref a54, .ref a55, .ref a56, .ref a57, .ref a58, .ref a59, .ref a60, .ref a61, .ref a62, .ref a63, .ref a64, .ref a65, .ref a66, .ref a67, .ref a68, .ref a69, .ref a70, .ref a71, .ref a72, .ref a73, .ref a74, .ref a75, .ref a76, .ref a77, .ref a78, .ref a79, .ref a80, .ref a81, .ref a82, .int 0, .int 0, .ref a83, .ref a84, .int 0, .int 0, .int 0, .int 0, .ref a85, .int 0, .ref a86, .ref a87, .ref a88, .int 0, .int 0, .int 0, .int 0, .int 0, .int 0, .int 0, .int 0, .ref a89, .int 0, .ref a90, .ref a91, .ref a92, .ref a93, .int 0, .int 0])), (a59, .inl (cI, 2, .inl (upd (fun _ => 0) 0 100))), (a58, .inl (cI, 2, .inl (upd (fun _ => 0) 0 100))), (a62, .inl (cI, 4, .inl (upd (upd (fun _ => 0) 0 16) 1 16))), (a61, .inl (cI, 4, .inl (upd (upd (fun _ => 0) 0 16) 1 16))), (a63, .inl (cI, 2, .inl (fun _ => 0))), (a70, .inl (cI, 2, .inl (fun _ => 0))), (a88, .inl (cI, 2, .inl (fun _ => 0))), (a86, .inl (cI, 300000, .inl (fun _ => 0))), (a71, .inl (cI, 2, .inl (fun _ => 0)))]) (hS : va_S A s.heap H locs) (hl : lv_has ls 4 [(3, .int 0), (2, .ref a51), (1, .ref a0), (0, .ref b)]) : W p l e room_1 s m #[Value.ref b] below meth c H locs 1000 1000000 (lw_Z below #[Value.ref b] s) (F0 m 929 ls []) := by
  obtain ⟨hx, hb, hml, hown, hts⟩ := id hC
  refine lv_aload_n hx hb dL_law_929 rfl (lv_at hl 2 rfl) ?_
  refine lv_aload_n hx hb dL_law_930 rfl (lv_at hl 3 rfl) ?_
  refine lv_iload_n hx hb dL_law_931 rfl (lv_at hl 0 rfl) ?_
  refine lv_iconst (v := 1) hx hb dL_law_932 (by decide) ?_
  refine lv_iadd hx hb dL_law_933 ?_
  refine k_i 1 (by decide +kernel) ?_
  refine va_sld hx hb hX hbl hbA hS (i := 1) (k_in (k := 1) (by decide +kernel) (by decide)) dL_law_934 ?_
  refine k_i (xs 1) (congrArg xs (by decide +kernel)) ?_
  refine lv_aload_n hx hb dL_law_935 rfl (lv_at hl 3 rfl) ?_
  refine lv_iload_n hx hb dL_law_936 rfl (lv_at hl 0 rfl) ?_
  refine lv_iconst (v := 2) hx hb dL_law_937 (by decide) ?_
  refine lv_iadd hx hb dL_law_938 ?_
  refine k_i 2 (by decide +kernel) ?_
  refine va_sld hx hb hX hbl hbA hS (i := 2) (k_in (k := 2) (by decide +kernel) (by decide)) dL_law_939 ?_
  refine k_i (xs 2) (congrArg xs (by decide +kernel)) ?_
  refine lv_if_eq (tgt := 947) hx hb dL_law_940 (by decide) (fun c_1 => ?_) (fun c_1 => ?_)
  · have d_1 : (xs 2).toInt = 0 := (fa_eq _ _).mp c_1
    refine lv_iconst (v := 0) hx hb dL_law_947 (by decide) ?_
    refine lv_aload_n hx hb dL_law_948 rfl (lv_at hl 3 rfl) ?_
    refine lv_iload_n hx hb dL_law_949 rfl (lv_at hl 0 rfl) ?_
    refine lv_iconst (v := 3) hx hb dL_law_950 (by decide) ?_
    refine lv_iadd hx hb dL_law_951 ?_
    refine k_i 3 (by decide +kernel) ?_
    refine va_sld hx hb hX hbl hbA hS (i := 3) (k_in (k := 3) (by decide +kernel) (by decide)) dL_law_952 ?_
    refine k_i (xs 3) (congrArg xs (by decide +kernel)) ?_
    refine k_ci (wr := [(a51, .inr (10, [.ref a52, .ref a53, .int 0, .int 0, .int 0, .int (-1), .int 0, .int 0, .int 0, .int 0, .long 0, .ref a54, .ref a55, .ref a56, .ref a57, .ref a58, .ref a59, .ref a60, .ref a61, .ref a62, .ref a63, .ref a64, .ref a65, .ref a66, .ref a67, .ref a68, .ref a69, .ref a70, .ref a71, .ref a72, .ref a73, .ref a74, .ref a75, .ref a76, .ref a77, .ref a78, .ref a79, .ref a80, .ref a81, .ref a82, .int 0, .int 0, .ref a83, .ref a84, .int 0, .int 0, .int 0, .int 0, .ref a85, .int 0, .ref a86, .ref a87, .ref a88, .int 0, .int 0, .int 0, .int 0, .int 0, .int 0, .int 0, .int 0, .ref a89, .int 0, .ref a90, .ref a91, .ref a92, .ref a93, .int 0, .int 0])), (a59, .inl (cI, 2, .inl (upd (fun _ => 0) 0 100))), (a58, .inl (cI, 2, .inl (upd (fun _ => 0) 0 100))), (a62, .inl (cI, 4, .inl (upd (upd (fun _ => 0) 0 16) 1 16))), (a61, .inl (cI, 4, .inl (upd (upd (fun _ => 0) 0 16) 1 16))), (a63, .inl (cI, 2, .inl (fun _ => 0))), (a70, .inl (cI, 2, .inl (fun _ => 0))), (a88, .inl (cI, 2, .inl (fun _ => 0))), (a86, .inl (cI, 300000, .inl (fun _ => 0))), (a71, .inl (cI, 2, .inl (fun _ => 0)))]) (k_rV hC hN hK hP hD (c109_X9_debt l G cI cJ cB cZ a0 a1 a2 a3 a4 a5 a6 a7 a8 a9 a10 a11 a12 a13 a14 a15 a16 a17 a18 a19 a20 a21 a22 a23 a24 a25 a26 a27 a28 a29 a30 a31 a32 a33 a34 a35 a36 a37 a38 a39 a40 a41 a42 a43 a44 a45 a46 a47 a48 a49 a50 (xs 1) 0 (xs 3)) [0, 1, 2, 3, 4, 5, 6, 7, 8, 9, 10, 11, 12] rfl (by decide) mi_X9_debt in_X9_debt se_X9_debt wm_L_105 9 0 rfl rfl rfl hl.1 rfl rfl (Nat.le_of_ble_eq_true rfl) ⟨(Nat.le_of_ble_eq_true rfl), (Nat.le_of_ble_eq_true rfl)⟩ dL_law_953 ⟨(Nat.le_of_ble_eq_true rfl), (Nat.le_of_ble_eq_true rfl)⟩) hP hD hS hA [0, 1, 2, 3, 4, 5, 6, 7, 8, 9, 10, 11, 12] [13, 14, 15, 16, 17, 18, 19, 20, 21, 22] rfl rfl (by decide) (by decide) (fun r2 u2 H locs hp hP hD hS => ?_)
    have hP : va_P G cl [(a51, .inr (10, [.ref a52, .ref a53, .int 0, .int 0, .int 0, .int (-1), .int 0, .int 0, .int 0, .int 0, .long 0, .ref a54, .ref a55, .ref a56, .ref a57, .ref a58, .ref a59, .ref a60, .ref a61, .ref a62, .ref a63, .ref a64, .ref a65, .ref a66, .ref a67, .ref a68, .ref a69, .ref a70, .ref a71, .ref a72, .ref a73, .ref a74, .ref a75, .ref a76, .ref a77, .ref a78, .ref a79, .ref a80, .ref a81, .ref a82, .int 0, .int 0, .ref a83, .ref a84, .int 0, .int 0, .int 0, .int 0, .ref a85, .int 0, .ref a86, .ref a87, .ref a88, .int 0, .int 0, .int 0, .int 0, .int 0, .int 0, .int 0, .int 0, .ref a89, .int 0, .ref a90, .ref a91, .ref a92, .ref a93, .int 0, .int 0])), (a59, .inl (cI, 2, .inl (upd (fun _ => 0) 0 100))), (a58, .inl (cI, 2, .inl (upd (fun _ => 0) 0 100))), (a62, .inl (cI, 4, .inl (upd (upd (fun _ => 0) 0 16) 1 16))), (a61, .inl (cI, 4, .inl (upd (upd (fun _ => 0) 0 16) 1 16))), (a63, .inl (cI, 2, .inl (fun _ => 0))), (a70, .inl (cI, 2, .inl (fun _ => 0))), (a88, .inl (cI, 2, .inl (fun _ => 0))), (a86, .inl (cI, 300000, .inl (fun _ => 0))), (a71, .inl (cI, 2, .inl (fun _ => 0)))] H := hP
    have hD : va_D A [(a51, .inr (10, [.ref a52, .ref a53, .int 0, .int 0, .int 0, .int (-1), .int 0, .int 0, .int 0, .int 0, .long 0, .ref a54, .ref a55, .ref a56, .ref a57, .ref a58, .ref a59, .ref a60, .ref a61, .ref a62, .ref a63, .ref a64, .ref a65, .ref a66, .ref a67, .ref a68, .ref a69, .ref a70, .ref a71, .ref a72, .ref a73, .ref a74, .ref a75, .ref a76, .ref a77, .ref a78, .ref a79, .ref a80, .ref a81, .ref a82, .int 0, .int 0, .ref a83, .ref a84, .int 0, .int 0, .int 0, .int 0, .ref a85, .int 0, .ref a86, .ref a87, .ref a88, .int 0, .int 0, .int 0, .int 0, .int 0, .int 0, .int 0, .int 0, .ref a89, .int 0, .ref a90, .ref a91, .ref a92, .ref a93, .int 0, .int 0])), (a59, .inl (cI, 2, .inl (upd (fun _ => 0) 0 100))), (a58, .inl (cI, 2, .inl (upd (fun _ => 0) 0 100))), (a62, .inl (cI, 4, .inl (upd (upd (fun _ => 0) 0 16) 1 16))), (a61, .inl (cI, 4, .inl (upd (upd (fun _ => 0) 0 16) 1 16))), (a63, .inl (cI, 2, .inl (fun _ => 0))), (a70, .inl (cI, 2, .inl (fun _ => 0))), (a88, .inl (cI, 2, .inl (fun _ => 0))), (a86, .inl (cI, 300000, .inl (fun _ => 0))), (a71, .inl (cI, 2, .inl (fun _ => 0)))] := hD
    have hp2 := hp
    refine lv_aload_n hx hb dL_law_956 rfl (lv_at hl 1 rfl) ?_
    refine lv_aload_n hx hb dL_law_957 rfl (lv_at hl 3 rfl) ?_
    refine lv_iload_n hx hb dL_law_958 rfl (lv_at hl 0 rfl) ?_
    refine lv_iconst (v := 1) hx hb dL_law_959 (by decide) ?_
    refine lv_iadd hx hb dL_law_960 ?_
    refine k_i 1 (by decide +kernel) ?_
    refine va_sld hx hb hX hbl hbA hS (i := 1) (k_in (k := 1) (by decide +kernel) (by decide)) dL_law_961 ?_
    refine k_i (xs 1) (congrArg xs (by decide +kernel)) ?_
    refine lv_aload_n hx hb dL_law_962 rfl (lv_at hl 3 rfl) ?_
    refine lv_iload_n hx hb dL_law_963 rfl (lv_at hl 0 rfl) ?_
    refine lv_iconst (v := 2) hx hb dL_law_964 (by decide) ?_
    refine lv_iadd hx hb dL_law_965 ?_
    refine k_i 2 (by decide +kernel) ?_
    refine va_sld hx hb hX hbl hbA hS (i := 2) (k_in (k := 2) (by decide +kernel) (by decide)) dL_law_966 ?_
    refine k_i (xs 2) (congrArg xs (by decide +kernel)) ?_
    refine lv_if_eq (tgt := 974) hx hb dL_law_967 (by decide) (fun c_3 => ?_) (fun c_3 => by have d_3 : (xs 2).toInt ≠ 0 := fa_ne c_3; omega)
    have d_3 : (xs 2).toInt = 0 := (fa_eq _ _).mp c_3
    refine lv_iconst (v := 0) hx hb dL_law_974 (by decide) ?_
    refine lv_aload_n hx hb dL_law_975 rfl (lv_at hl 3 rfl) ?_
    refine lv_iload_n hx hb dL_law_976 rfl (lv_at hl 0 rfl) ?_
    refine lv_iconst (v := 3) hx hb dL_law_977 (by decide) ?_
    refine lv_iadd hx hb dL_law_978 ?_
    refine k_i 3 (by decide +kernel) ?_
    refine va_sld hx hb hX hbl hbA hS (i := 3) (k_in (k := 3) (by decide +kernel) (by decide)) dL_law_979 ?_
    refine k_i (xs 3) (congrArg xs (by decide +kernel)) ?_
    refine k_ci (wr := []) (k_rV hC hN hK hP hD (c215_X10_debt l G cI cJ cB cZ a51 a52 a53 a54 a55 a56 a57 a58 a59 a60 a61 a62 a63 a64 a65 a66 a67 a68 a69 a70 a71 a72 a73 a74 a75 a76 a77 a78 a79 a80 a81 a82 a83 a84 a85 a86 a87 a88 a89 a90 a91 a92 a93 (xs 1) 0 (xs 3)) [0, 1, 2, 3, 4, 5, 6, 7, 8, 9] rfl (by decide) mi_X10_debt in_X10_debt se_X10_debt wm_L_108 10 0 rfl rfl rfl hl.1 rfl rfl (Nat.le_of_ble_eq_true rfl) ⟨(Nat.le_of_ble_eq_true rfl), (Nat.le_of_ble_eq_true rfl)⟩ dL_law_980 ⟨(Nat.le_of_ble_eq_true rfl), (Nat.le_of_ble_eq_true rfl)⟩) hP hD hS hA [0, 1, 2, 3, 4, 5, 6, 7, 8, 9] [] rfl rfl (by decide) (by decide) (fun r4 u4 H locs hp hP hD hS => ?_)
    have hP : va_P G cl [] H := hP
    have hD : va_D A [] := hD
    have hp4 := hp
    refine lv_icmp_eq (tgt := 1428) hx hb dL_law_983 (by decide) (fun _ => ?_) (fun c_ => absurd (hp2.trans hp4.symm) c_)
    exact law_tail hC hr hlk hX hbl hbA hfo hS hl (Nat.le_of_ble_eq_true rfl) (Nat.le_of_ble_eq_true rfl)
  · have d_1 : (xs 2).toInt ≠ 0 := fa_ne c_1
    refine lv_iconst (v := 1) hx hb dL_law_943 (by decide) ?_
    refine lv_goto (tgt := 948) hx hb dL_law_944 (by decide) ?_
    refine lv_aload_n hx hb dL_law_948 rfl (lv_at hl 3 rfl) ?_
    refine lv_iload_n hx hb dL_law_949 rfl (lv_at hl 0 rfl) ?_
    refine lv_iconst (v := 3) hx hb dL_law_950 (by decide) ?_
    refine lv_iadd hx hb dL_law_951 ?_
    refine k_i 3 (by decide +kernel) ?_
    refine va_sld hx hb hX hbl hbA hS (i := 3) (k_in (k := 3) (by decide +kernel) (by decide)) dL_law_952 ?_
    refine k_i (xs 3) (congrArg xs (by decide +kernel)) ?_
    refine k_ci (wr := [(a51, .inr (10, [.ref a52, .ref a53, .int 0, .int 0, .int 0, .int (-1), .int 0, .int 0, .int 0, .int 0, .long 0, .ref a54, .ref a55, .ref a56, .ref a57, .ref a58, .ref a59, .ref a60, .ref a61, .ref a62, .ref a63, .ref a64, .ref a65, .ref a66, .ref a67, .ref a68, .ref a69, .ref a70, .ref a71, .ref a72, .ref a73, .ref a74, .ref a75, .ref a76, .ref a77, .ref a78, .ref a79, .ref a80, .ref a81, .ref a82, .int 0, .int 0, .ref a83, .ref a84, .int 0, .int 0, .int 0, .int 0, .ref a85, .int 0, .ref a86, .ref a87, .ref a88, .int 0, .int 0, .int 0, .int 0, .int 0, .int 0, .int 0, .int 0, .ref a89, .int 0, .ref a90, .ref a91, .ref a92, .ref a93, .int 0, .int 0])), (a59, .inl (cI, 2, .inl (upd (fun _ => 0) 0 100))), (a58, .inl (cI, 2, .inl (upd (fun _ => 0) 0 100))), (a62, .inl (cI, 4, .inl (upd (upd (fun _ => 0) 0 16) 1 16))), (a61, .inl (cI, 4, .inl (upd (upd (fun _ => 0) 0 16) 1 16))), (a63, .inl (cI, 2, .inl (fun _ => 0))), (a70, .inl (cI, 2, .inl (fun _ => 0))), (a88, .inl (cI, 2, .inl (fun _ => 0))), (a86, .inl (cI, 300000, .inl (fun _ => 0))), (a71, .inl (cI, 2, .inl (fun _ => 0)))]) (k_rV hC hN hK hP hD (c109_X9_debt l G cI cJ cB cZ a0 a1 a2 a3 a4 a5 a6 a7 a8 a9 a10 a11 a12 a13 a14 a15 a16 a17 a18 a19 a20 a21 a22 a23 a24 a25 a26 a27 a28 a29 a30 a31 a32 a33 a34 a35 a36 a37 a38 a39 a40 a41 a42 a43 a44 a45 a46 a47 a48 a49 a50 (xs 1) 1 (xs 3)) [0, 1, 2, 3, 4, 5, 6, 7, 8, 9, 10, 11, 12] rfl (by decide) mi_X9_debt in_X9_debt se_X9_debt wm_L_105 9 0 rfl rfl rfl hl.1 rfl rfl (Nat.le_of_ble_eq_true rfl) ⟨(Nat.le_of_ble_eq_true rfl), (Nat.le_of_ble_eq_true rfl)⟩ dL_law_953 ⟨(Nat.le_of_ble_eq_true rfl), (Nat.le_of_ble_eq_true rfl)⟩) hP hD hS hA [0, 1, 2, 3, 4, 5, 6, 7, 8, 9, 10, 11, 12] [13, 14, 15, 16, 17, 18, 19, 20, 21, 22] rfl rfl (by decide) (by decide) (fun r5 u5 H locs hp hP hD hS => ?_)
    have hP : va_P G cl [(a51, .inr (10, [.ref a52, .ref a53, .int 0, .int 0, .int 0, .int (-1), .int 0, .int 0, .int 0, .int 0, .long 0, .ref a54, .ref a55, .ref a56, .ref a57, .ref a58, .ref a59, .ref a60, .ref a61, .ref a62, .ref a63, .ref a64, .ref a65, .ref a66, .ref a67, .ref a68, .ref a69, .ref a70, .ref a71, .ref a72, .ref a73, .ref a74, .ref a75, .ref a76, .ref a77, .ref a78, .ref a79, .ref a80, .ref a81, .ref a82, .int 0, .int 0, .ref a83, .ref a84, .int 0, .int 0, .int 0, .int 0, .ref a85, .int 0, .ref a86, .ref a87, .ref a88, .int 0, .int 0, .int 0, .int 0, .int 0, .int 0, .int 0, .int 0, .ref a89, .int 0, .ref a90, .ref a91, .ref a92, .ref a93, .int 0, .int 0])), (a59, .inl (cI, 2, .inl (upd (fun _ => 0) 0 100))), (a58, .inl (cI, 2, .inl (upd (fun _ => 0) 0 100))), (a62, .inl (cI, 4, .inl (upd (upd (fun _ => 0) 0 16) 1 16))), (a61, .inl (cI, 4, .inl (upd (upd (fun _ => 0) 0 16) 1 16))), (a63, .inl (cI, 2, .inl (fun _ => 0))), (a70, .inl (cI, 2, .inl (fun _ => 0))), (a88, .inl (cI, 2, .inl (fun _ => 0))), (a86, .inl (cI, 300000, .inl (fun _ => 0))), (a71, .inl (cI, 2, .inl (fun _ => 0)))] H := hP
    have hD : va_D A [(a51, .inr (10, [.ref a52, .ref a53, .int 0, .int 0, .int 0, .int (-1), .int 0, .int 0, .int 0, .int 0, .long 0, .ref a54, .ref a55, .ref a56, .ref a57, .ref a58, .ref a59, .ref a60, .ref a61, .ref a62, .ref a63, .ref a64, .ref a65, .ref a66, .ref a67, .ref a68, .ref a69, .ref a70, .ref a71, .ref a72, .ref a73, .ref a74, .ref a75, .ref a76, .ref a77, .ref a78, .ref a79, .ref a80, .ref a81, .ref a82, .int 0, .int 0, .ref a83, .ref a84, .int 0, .int 0, .int 0, .int 0, .ref a85, .int 0, .ref a86, .ref a87, .ref a88, .int 0, .int 0, .int 0, .int 0, .int 0, .int 0, .int 0, .int 0, .ref a89, .int 0, .ref a90, .ref a91, .ref a92, .ref a93, .int 0, .int 0])), (a59, .inl (cI, 2, .inl (upd (fun _ => 0) 0 100))), (a58, .inl (cI, 2, .inl (upd (fun _ => 0) 0 100))), (a62, .inl (cI, 4, .inl (upd (upd (fun _ => 0) 0 16) 1 16))), (a61, .inl (cI, 4, .inl (upd (upd (fun _ => 0) 0 16) 1 16))), (a63, .inl (cI, 2, .inl (fun _ => 0))), (a70, .inl (cI, 2, .inl (fun _ => 0))), (a88, .inl (cI, 2, .inl (fun _ => 0))), (a86, .inl (cI, 300000, .inl (fun _ => 0))), (a71, .inl (cI, 2, .inl (fun _ => 0)))] := hD
    have hp5 := hp
    refine lv_aload_n hx hb dL_law_956 rfl (lv_at hl 1 rfl) ?_
    refine lv_aload_n hx hb dL_law_957 rfl (lv_at hl 3 rfl) ?_
    refine lv_iload_n hx hb dL_law_958 rfl (lv_at hl 0 rfl) ?_
    refine lv_iconst (v := 1) hx hb dL_law_959 (by decide) ?_
    refine lv_iadd hx hb dL_law_960 ?_
    refine k_i 1 (by decide +kernel) ?_
    refine va_sld hx hb hX hbl hbA hS (i := 1) (k_in (k := 1) (by decide +kernel) (by decide)) dL_law_961 ?_
    refine k_i (xs 1) (congrArg xs (by decide +kernel)) ?_
    refine lv_aload_n hx hb dL_law_962 rfl (lv_at hl 3 rfl) ?_
    refine lv_iload_n hx hb dL_law_963 rfl (lv_at hl 0 rfl) ?_
    refine lv_iconst (v := 2) hx hb dL_law_964 (by decide) ?_
    refine lv_iadd hx hb dL_law_965 ?_
    refine k_i 2 (by decide +kernel) ?_
    refine va_sld hx hb hX hbl hbA hS (i := 2) (k_in (k := 2) (by decide +kernel) (by decide)) dL_law_966 ?_
    refine k_i (xs 2) (congrArg xs (by decide +kernel)) ?_
    refine lv_if_eq (tgt := 974) hx hb dL_law_967 (by decide) (fun c_6 => by have d_6 : (xs 2).toInt = 0 := (fa_eq _ _).mp c_6; omega) (fun c_6 => ?_)
    have d_6 : (xs 2).toInt ≠ 0 := fa_ne c_6
    refine lv_iconst (v := 1) hx hb dL_law_970 (by decide) ?_
    refine lv_goto (tgt := 975) hx hb dL_law_971 (by decide) ?_
    refine lv_aload_n hx hb dL_law_975 rfl (lv_at hl 3 rfl) ?_
    refine lv_iload_n hx hb dL_law_976 rfl (lv_at hl 0 rfl) ?_
    refine lv_iconst (v := 3) hx hb dL_law_977 (by decide) ?_
    refine lv_iadd hx hb dL_law_978 ?_
    refine k_i 3 (by decide +kernel) ?_
    refine va_sld hx hb hX hbl hbA hS (i := 3) (k_in (k := 3) (by decide +kernel) (by decide)) dL_law_979 ?_
    refine k_i (xs 3) (congrArg xs (by decide +kernel)) ?_
    refine k_ci (wr := []) (k_rV hC hN hK hP hD (c215_X10_debt l G cI cJ cB cZ a51 a52 a53 a54 a55 a56 a57 a58 a59 a60 a61 a62 a63 a64 a65 a66 a67 a68 a69 a70 a71 a72 a73 a74 a75 a76 a77 a78 a79 a80 a81 a82 a83 a84 a85 a86 a87 a88 a89 a90 a91 a92 a93 (xs 1) 1 (xs 3)) [0, 1, 2, 3, 4, 5, 6, 7, 8, 9] rfl (by decide) mi_X10_debt in_X10_debt se_X10_debt wm_L_108 10 0 rfl rfl rfl hl.1 rfl rfl (Nat.le_of_ble_eq_true rfl) ⟨(Nat.le_of_ble_eq_true rfl), (Nat.le_of_ble_eq_true rfl)⟩ dL_law_980 ⟨(Nat.le_of_ble_eq_true rfl), (Nat.le_of_ble_eq_true rfl)⟩) hP hD hS hA [0, 1, 2, 3, 4, 5, 6, 7, 8, 9] [] rfl rfl (by decide) (by decide) (fun r7 u7 H locs hp hP hD hS => ?_)
    have hP : va_P G cl [] H := hP
    have hD : va_D A [] := hD
    have hp7 := hp
    refine lv_icmp_eq (tgt := 1428) hx hb dL_law_983 (by decide) (fun _ => ?_) (fun c_ => absurd (hp5.trans hp7.symm) c_)
    exact law_tail hC hr hlk hX hbl hbA hfo hS hl (Nat.le_of_ble_eq_true rfl) (Nat.le_of_ble_eq_true rfl)
set_option maxRecDepth 100000 in
theorem wm_L_109 : Cond.methodLink RL 109 yX9_joined ∈ gw := gm (List.mem_of_getElem? (i := 1170) (by decide +kernel)) rfl
set_option maxRecDepth 100000 in
theorem mi_X9_joined : MI yX9_joined cX9_joined 7 (some .int) 2 := ⟨gm (List.mem_of_getElem? (i := 1173) rfl) rfl, gm (List.mem_of_getElem? (i := 112) (by decide +kernel)) rfl, by decide, by decide, by decide +kernel⟩
set_option maxRecDepth 100000 in
theorem in_X9_joined : Cond.instanceMethod yX9_joined ∈ gw := gm (List.mem_of_getElem? (i := 1171) (by decide +kernel)) rfl
set_option maxRecDepth 100000 in
theorem se_X9_joined : Cond.selects yX9_joined.cls yX9_joined yX9_joined ∈ gw := gm (List.mem_of_getElem? (i := 1172) (by decide +kernel)) rfl
set_option maxRecDepth 100000 in
theorem wm_L_113 : Cond.methodLink RL 113 yX10_joined ∈ gw := gm (List.mem_of_getElem? (i := 1811) (by decide +kernel)) rfl
set_option maxRecDepth 100000 in
theorem mi_X10_joined : MI yX10_joined cX10_joined 4 (some .int) 2 := ⟨gm (List.mem_of_getElem? (i := 1814) rfl) rfl, gm (List.mem_of_getElem? (i := 124) (by decide +kernel)) rfl, by decide, by decide, by decide +kernel⟩
set_option maxRecDepth 100000 in
theorem in_X10_joined : Cond.instanceMethod yX10_joined ∈ gw := gm (List.mem_of_getElem? (i := 1812) (by decide +kernel)) rfl
set_option maxRecDepth 100000 in
theorem se_X10_joined : Cond.selects yX10_joined.cls yX10_joined yX10_joined ∈ gw := gm (List.mem_of_getElem? (i := 1813) (by decide +kernel)) rfl
set_option maxHeartbeats 4000000 in
set_option maxRecDepth 100000 in
theorem law_joined {p : Program} {l : Launch} {e : Env} {s : State} {m : MethodId} {below : List Frame} {meth : Method} {c : Code} {b : Nat} {xs : Nat → Int32} {A : Nat → Prop} {H : Heap} {locs : List Loc} {ls : Array Slot} {G : va_G} {cI cJ cB cZ : ClassId} (a0 a1 a2 a3 a4 a5 a6 a7 a8 a9 a10 a11 a12 a13 a14 a15 a16 a17 a18 a19 a20 a21 a22 a23 a24 a25 a26 a27 a28 a29 a30 a31 a32 a33 a34 a35 a36 a37 a38 a39 a40 a41 a42 a43 a44 a45 a46 a47 a48 a49 a50 a51 a52 a53 a54 a55 a56 a57 a58 a59 a60 a61 a62 a63 a64 a65 a66 a67 a68 a69 a70 a71 a72 a73 a74 a75 a76 a77 a78 a79 a80 a81 a82 a83 a84 a85 a86 a87 a88 a89 : Nat) (hC : CallFix p m c code 4 s #[Value.ref b] gw R_law) (hr : meth.sig.returnType = ret) (hlk : meth.locks = false) (hN : NW s) (hK : va_K G cl (TY cI cJ cB cZ) s) (hX : va_X b 6 xs s s.heap) (hbl : b < s.heap.size) (hA : ∀ q, s.heap.size ≤ q → A q) (hbA : ¬ A b) (hfo : ∀ q, A q → s.heap.size ≤ q) (hP : va_P G cl [(a0, .inr (9, [.ref a1, .ref a2, .ref a3, .int 0, .int 0, .ref a4, .ref a5, .ref a6, .ref a7])), (a1, .inr (7, [.int 100, .int 100, .int 0, .ref a8, .ref a9, .int 0, .ref a10, .ref a11, .ref a12, .ref a13, .ref a14, .ref a15, .ref a16, .ref a17, .ref a18])), (a9, .inl (cI, 2, .inl (upd (upd (fun _ => 0) 0 16) 1 16))), (a8, .inl (cI, 2, .inl (upd (upd (fun _ => 0) 0 16) 1 16))), (a17, .inr (8, [.ref a19, .ref a20, .ref a21, .ref a22, .ref a23, .ref a24, .ref a25, .int 0])), (a3, .inr (8, [.ref a26, .ref a27, .ref a28, .ref a29, .ref a30, .ref a31, .ref a32, .int 0])), (a5, .inr (0, [.ref a33, .int 0, .int 0, .long 0, .int 0, .int 0, .long 0])), (a4, .inr (4, [.ref a34, .ref a5, .ref a35, .ref a36, .ref a37, .ref a38, .ref a39, .int 100, .int 0, .int 0, .int (-1)])), (a35, .inr (8, [.ref a40, .ref a41, .ref a42, .ref a43, .ref a44, .ref a45, .ref a46, .int 0])), (a36, .inl (cI, 7, .inl (fun _ => 0))), (a33, .inl (cJ, 256, .inr (.inl (fun _ => 0)))), (a7, .inr (1, [.int 0, .int 0, .int 0, .int 0, .int 0])), (a47, .inr (10, [.ref a48, .ref a49, .int 0, .int 0, .int 0, .int (-1), .int 0, .int 0, .int 0, .int 0, .long 0, .ref a50, .ref a51, .ref a52, .ref a53, .ref a54, .ref a55, .ref a56, .ref a57, .ref a58, .ref a59, .ref a60, .ref a61, .ref a62, .ref a63, .ref a64, .ref a65, .ref a66, .ref a67, .ref a68, .ref a69, .ref a70, .ref a71, .ref a72, .ref a73, .ref a74, .ref a75, .ref a76, .ref a77, .ref a78, .int 0, .int 0, .ref a79, .ref a80, .int 0, .int 0, .int 0, .int 0, .ref a81, .int 0, .ref a82, .ref a83, .ref a84, .int 0, .int 0, .int 0, .int 0, .int 0, .int 0, .int 0, .int 0, .ref a85, .int 0, .ref a86, .ref a87, .ref a88, .ref a89, .int 0, .int 0])), (a55, .inl (cI, 2, .inl (upd (fun _ => 0) 0 100))), (a54, .inl (cI, 2, .inl (upd (fun _ => 0) 0 100))), (a58, .inl (cI, 4, .inl (upd (upd (fun _ => 0) 0 16) 1 16))), (a57, .inl (cI, 4, .inl (upd (upd (fun _ => 0) 0 16) 1 16))), (a59, .inl (cI, 2, .inl (fun _ => 0))), (a66, .inl (cI, 2, .inl (fun _ => 0))), (a84, .inl (cI, 2, .inl (fun _ => 0))), (a82, .inl (cI, 300000, .inl (fun _ => 0)))] H) (hD : va_D A [(a0, .inr (9, [.ref a1, .ref a2, .ref a3, .int 0, .int 0, .ref a4, .ref a5, .ref a6, .ref a7])), (a1, .inr (7, [.int 100, .int 100, .int 0, .ref a8, .ref a9, .int 0, .ref a10, .ref a11, .ref a12, .ref a13, .ref a14, .ref a15, .ref a16, .ref a17, .ref a18])), (a9, .inl (cI, 2, .inl (upd (upd (fun _ => 0) 0 16) 1 16))), (a8, .inl (cI, 2, .inl (upd (upd (fun _ => 0) 0 16) 1 16))), (a17, .inr (8, [.ref a19, .ref a20, .ref a21, .ref a22, .ref a23, .ref a24, .ref a25, .int 0])), (a3, .inr (8, [.ref a26, .ref a27, .ref a28, .ref a29, .ref a30, .ref a31, .ref a32, .int 0])), (a5, .inr (0, [.ref a33, .int 0, .int 0, .long 0, .int 0, .int 0, .long 0])), (a4, .inr (4, [.ref a34, .ref a5, .ref a35, .ref a36, .ref a37, .ref a38, .ref a39, .int 100, .int 0, .int 0, .int (-1)])), (a35, .inr (8, [.ref a40, .ref a41, .ref a42, .ref a43, .ref a44, .ref a45, .ref a46, .int 0])), (a36, .inl (cI, 7, .inl (fun _ => 0))), (a33, .inl (cJ, 256, .inr (.inl (fun _ => 0)))), (a7, .inr (1, [.int 0, .int 0, .int 0, .int 0, .int 0])), (a47, .inr (10, [.ref a48, .ref a49, .int 0, .int 0, .int 0, .int (-1), .int 0, .int 0, .int 0, .int 0, .long 0, .ref a50, .ref a51, .ref a52, .ref a53, .ref a54, .ref a55, .ref a56, .ref a57, .ref a58, .ref a59, .ref a60, .ref a61, .ref a62, .ref a63, .ref a64, .ref a65, .ref a66, .ref a67, .ref a68, .ref a69, .ref a70, .ref a71, .ref a72, .ref a73, .ref a74, .ref a75, .ref a76, .ref a77, .ref a78, .int 0, .int 0, .ref a79, .ref a80, .int 0, .int 0, .int 0, .int 0, .ref a81, .int 0, .ref a82, .ref a83, .ref a84, .int 0, .int 0, .int 0, .int 0, .int 0, .int 0, .int 0, .int 0, .ref a85, .int 0, .ref a86, .ref a87, .ref a88, .ref a89, .int 0, .int 0])), (a55, .inl (cI, 2, .inl (upd (fun _ => 0) 0 100))), (a54, .inl (cI, 2, .inl (upd (fun _ => 0) 0 100))), (a58, .inl (cI, 4, .inl (upd (upd (fun _ => 0) 0 16) 1 16))), (a57, .inl (cI, 4, .inl (upd (upd (fun _ => 0) 0 16) 1 16))), (a59, .inl (cI, 2, .inl (fun _ => 0))), (a66, .inl (cI, 2, .inl (fun _ => 0))), (a84, .inl (cI, 2, .inl (fun _ => 0))), (a82, .inl (cI, 300000, .inl (fun _ => 0)))]) (hS : va_S A s.heap H locs) (hl : lv_has ls 4 [(3, .int 0), (2, .ref a47), (1, .ref a0), (0, .ref b)]) : W p l e room_1 s m #[Value.ref b] below meth c H locs 1000 1000000 (lw_Z below #[Value.ref b] s) (F0 m 988 ls []) := by
  obtain ⟨hx, hb, hml, hown, hts⟩ := id hC
  refine lv_aload_n hx hb dL_law_988 rfl (lv_at hl 2 rfl) ?_
  refine lv_aload_n hx hb dL_law_989 rfl (lv_at hl 3 rfl) ?_
  refine lv_iload_n hx hb dL_law_990 rfl (lv_at hl 0 rfl) ?_
  refine lv_iconst (v := 1) hx hb dL_law_991 (by decide) ?_
  refine lv_iadd hx hb dL_law_992 ?_
  refine k_i 1 (by decide +kernel) ?_
  refine va_sld hx hb hX hbl hbA hS (i := 1) (k_in (k := 1) (by decide +kernel) (by decide)) dL_law_993 ?_
  refine k_i (xs 1) (congrArg xs (by decide +kernel)) ?_
  refine lv_if_eq (tgt := 1001) hx hb dL_law_994 (by decide) (fun c_1 => ?_) (fun c_1 => ?_)
  · have d_1 : (xs 1).toInt = 0 := (fa_eq _ _).mp c_1
    refine lv_iconst (v := 0) hx hb dL_law_1001 (by decide) ?_
    refine lv_aload_n hx hb dL_law_1002 rfl (lv_at hl 3 rfl) ?_
    refine lv_iload_n hx hb dL_law_1003 rfl (lv_at hl 0 rfl) ?_
    refine lv_iconst (v := 2) hx hb dL_law_1004 (by decide) ?_
    refine lv_iadd hx hb dL_law_1005 ?_
    refine k_i 2 (by decide +kernel) ?_
    refine va_sld hx hb hX hbl hbA hS (i := 2) (k_in (k := 2) (by decide +kernel) (by decide)) dL_law_1006 ?_
    refine k_i (xs 2) (congrArg xs (by decide +kernel)) ?_
    refine k_ci (wr := [(a47, .inr (10, [.ref a48, .ref a49, .int 0, .int 0, .int 0, .int (-1), .int 0, .int 0, .int 0, .int 0, .long 0, .ref a50, .ref a51, .ref a52, .ref a53, .ref a54, .ref a55, .ref a56, .ref a57, .ref a58, .ref a59, .ref a60, .ref a61, .ref a62, .ref a63, .ref a64, .ref a65, .ref a66, .ref a67, .ref a68, .ref a69, .ref a70, .ref a71, .ref a72, .ref a73, .ref a74, .ref a75, .ref a76, .ref a77, .ref a78, .int 0, .int 0, .ref a79, .ref a80, .int 0, .int 0, .int 0, .int 0, .ref a81, .int 0, .ref a82, .ref a83, .ref a84, .int 0, .int 0, .int 0, .int 0, .int 0, .int 0, .int 0, .int 0, .ref a85, .int 0, .ref a86, .ref a87, .ref a88, .ref a89, .int 0, .int 0])), (a55, .inl (cI, 2, .inl (upd (fun _ => 0) 0 100))), (a54, .inl (cI, 2, .inl (upd (fun _ => 0) 0 100))), (a58, .inl (cI, 4, .inl (upd (upd (fun _ => 0) 0 16) 1 16))), (a57, .inl (cI, 4, .inl (upd (upd (fun _ => 0) 0 16) 1 16))), (a59, .inl (cI, 2, .inl (fun _ => 0))), (a66, .inl (cI, 2, .inl (fun _ => 0))), (a84, .inl (cI, 2, .inl (fun _ => 0))), (a82, .inl (cI, 300000, .inl (fun _ => 0)))]) (k_rV hC hN hK hP hD (c114_X9_joined l G cI cJ cB cZ a0 a1 a2 a3 a4 a5 a6 a7 a8 a9 a10 a11 a12 a13 a14 a15 a16 a17 a18 a19 a20 a21 a22 a23 a24 a25 a26 a27 a28 a29 a30 a31 a32 a33 a34 a35 a36 a37 a38 a39 a40 a41 a42 a43 a44 a45 a46 0 (xs 2)) [0, 1, 2, 3, 4, 5, 6, 7, 8, 9, 10, 11] rfl (by decide) mi_X9_joined in_X9_joined se_X9_joined wm_L_109 9 0 rfl rfl rfl hl.1 rfl rfl (Nat.le_of_ble_eq_true rfl) ⟨(Nat.le_of_ble_eq_true rfl), (Nat.le_of_ble_eq_true rfl)⟩ dL_law_1007 ⟨(Nat.le_of_ble_eq_true rfl), (Nat.le_of_ble_eq_true rfl)⟩) hP hD hS hA [0, 1, 2, 3, 4, 5, 6, 7, 8, 9, 10, 11] [12, 13, 14, 15, 16, 17, 18, 19, 20] rfl rfl (by decide) (by decide) (fun r2 u2 H locs hp hP hD hS => ?_)
    have hP : va_P G cl [(a47, .inr (10, [.ref a48, .ref a49, .int 0, .int 0, .int 0, .int (-1), .int 0, .int 0, .int 0, .int 0, .long 0, .ref a50, .ref a51, .ref a52, .ref a53, .ref a54, .ref a55, .ref a56, .ref a57, .ref a58, .ref a59, .ref a60, .ref a61, .ref a62, .ref a63, .ref a64, .ref a65, .ref a66, .ref a67, .ref a68, .ref a69, .ref a70, .ref a71, .ref a72, .ref a73, .ref a74, .ref a75, .ref a76, .ref a77, .ref a78, .int 0, .int 0, .ref a79, .ref a80, .int 0, .int 0, .int 0, .int 0, .ref a81, .int 0, .ref a82, .ref a83, .ref a84, .int 0, .int 0, .int 0, .int 0, .int 0, .int 0, .int 0, .int 0, .ref a85, .int 0, .ref a86, .ref a87, .ref a88, .ref a89, .int 0, .int 0])), (a55, .inl (cI, 2, .inl (upd (fun _ => 0) 0 100))), (a54, .inl (cI, 2, .inl (upd (fun _ => 0) 0 100))), (a58, .inl (cI, 4, .inl (upd (upd (fun _ => 0) 0 16) 1 16))), (a57, .inl (cI, 4, .inl (upd (upd (fun _ => 0) 0 16) 1 16))), (a59, .inl (cI, 2, .inl (fun _ => 0))), (a66, .inl (cI, 2, .inl (fun _ => 0))), (a84, .inl (cI, 2, .inl (fun _ => 0))), (a82, .inl (cI, 300000, .inl (fun _ => 0)))] H := hP
    have hD : va_D A [(a47, .inr (10, [.ref a48, .ref a49, .int 0, .int 0, .int 0, .int (-1), .int 0, .int 0, .int 0, .int 0, .long 0, .ref a50, .ref a51, .ref a52, .ref a53, .ref a54, .ref a55, .ref a56, .ref a57, .ref a58, .ref a59, .ref a60, .ref a61, .ref a62, .ref a63, .ref a64, .ref a65, .ref a66, .ref a67, .ref a68, .ref a69, .ref a70, .ref a71, .ref a72, .ref a73, .ref a74, .ref a75, .ref a76, .ref a77, .ref a78, .int 0, .int 0, .ref a79, .ref a80, .int 0, .int 0, .int 0, .int 0, .ref a81, .int 0, .ref a82, .ref a83, .ref a84, .int 0, .int 0, .int 0, .int 0, .int 0, .int 0, .int 0, .int 0, .ref a85, .int 0, .ref a86, .ref a87, .ref a88, .ref a89, .int 0, .int 0])), (a55, .inl (cI, 2, .inl (upd (fun _ => 0) 0 100))), (a54, .inl (cI, 2, .inl (upd (fun _ => 0) 0 100))), (a58, .inl (cI, 4, .inl (upd (upd (fun _ => 0) 0 16) 1 16))), (a57, .inl (cI, 4, .inl (upd (upd (fun _ => 0) 0 16) 1 16))), (a59, .inl (cI, 2, .inl (fun _ => 0))), (a66, .inl (cI, 2, .inl (fun _ => 0))), (a84, .inl (cI, 2, .inl (fun _ => 0))), (a82, .inl (cI, 300000, .inl (fun _ => 0)))] := hD
    subst hp
    refine lv_aload_n hx hb dL_law_1010 rfl (lv_at hl 1 rfl) ?_
    refine lv_aload_n hx hb dL_law_1011 rfl (lv_at hl 3 rfl) ?_
    refine lv_iload_n hx hb dL_law_1012 rfl (lv_at hl 0 rfl) ?_
    refine lv_iconst (v := 1) hx hb dL_law_1013 (by decide) ?_
    refine lv_iadd hx hb dL_law_1014 ?_
    refine k_i 1 (by decide +kernel) ?_
    refine va_sld hx hb hX hbl hbA hS (i := 1) (k_in (k := 1) (by decide +kernel) (by decide)) dL_law_1015 ?_
    refine k_i (xs 1) (congrArg xs (by decide +kernel)) ?_
    refine lv_if_eq (tgt := 1023) hx hb dL_law_1016 (by decide) (fun c_3 => ?_) (fun c_3 => by have d_3 : (xs 1).toInt ≠ 0 := fa_ne c_3; omega)
    have d_3 : (xs 1).toInt = 0 := (fa_eq _ _).mp c_3
    refine lv_iconst (v := 0) hx hb dL_law_1023 (by decide) ?_
    refine lv_aload_n hx hb dL_law_1024 rfl (lv_at hl 3 rfl) ?_
    refine lv_iload_n hx hb dL_law_1025 rfl (lv_at hl 0 rfl) ?_
    refine lv_iconst (v := 2) hx hb dL_law_1026 (by decide) ?_
    refine lv_iadd hx hb dL_law_1027 ?_
    refine k_i 2 (by decide +kernel) ?_
    refine va_sld hx hb hX hbl hbA hS (i := 2) (k_in (k := 2) (by decide +kernel) (by decide)) dL_law_1028 ?_
    refine k_i (xs 2) (congrArg xs (by decide +kernel)) ?_
    refine k_ci (wr := []) (k_rV hC hN hK hP hD (c218_X10_joined l G cI cJ cB cZ a47 a48 a49 a50 a51 a52 a53 a54 a55 a56 a57 a58 a59 a60 a61 a62 a63 a64 a65 a66 a67 a68 a69 a70 a71 a72 a73 a74 a75 a76 a77 a78 a79 a80 a81 a82 a83 a84 a85 a86 a87 a88 a89 0 (xs 2)) [0, 1, 2, 3, 4, 5, 6, 7, 8] rfl (by decide) mi_X10_joined in_X10_joined se_X10_joined wm_L_113 10 0 rfl rfl rfl hl.1 rfl rfl (Nat.le_of_ble_eq_true rfl) ⟨(Nat.le_of_ble_eq_true rfl), (Nat.le_of_ble_eq_true rfl)⟩ dL_law_1029 ⟨(Nat.le_of_ble_eq_true rfl), (Nat.le_of_ble_eq_true rfl)⟩) hP hD hS hA [0, 1, 2, 3, 4, 5, 6, 7, 8] [] rfl rfl (by decide) (by decide) (fun r4 u4 H locs hp hP hD hS => ?_)
    have hP : va_P G cl [] H := hP
    have hD : va_D A [] := hD
    subst hp
    refine lv_icmp_eq (tgt := 1428) hx hb dL_law_1032 (by decide) (fun _ => ?_) (fun c_ => absurd (by decide +kernel) c_)
    exact law_tail hC hr hlk hX hbl hbA hfo hS hl (Nat.le_of_ble_eq_true rfl) (Nat.le_of_ble_eq_true rfl)
  · have d_1 : (xs 1).toInt ≠ 0 := fa_ne c_1
    refine lv_iconst (v := 1) hx hb dL_law_997 (by decide) ?_
    refine lv_goto (tgt := 1002) hx hb dL_law_998 (by decide) ?_
    refine lv_aload_n hx hb dL_law_1002 rfl (lv_at hl 3 rfl) ?_
    refine lv_iload_n hx hb dL_law_1003 rfl (lv_at hl 0 rfl) ?_
    refine lv_iconst (v := 2) hx hb dL_law_1004 (by decide) ?_
    refine lv_iadd hx hb dL_law_1005 ?_
    refine k_i 2 (by decide +kernel) ?_
    refine va_sld hx hb hX hbl hbA hS (i := 2) (k_in (k := 2) (by decide +kernel) (by decide)) dL_law_1006 ?_
    refine k_i (xs 2) (congrArg xs (by decide +kernel)) ?_
    refine k_ci (wr := [(a47, .inr (10, [.ref a48, .ref a49, .int 0, .int 0, .int 0, .int (-1), .int 0, .int 0, .int 0, .int 0, .long 0, .ref a50, .ref a51, .ref a52, .ref a53, .ref a54, .ref a55, .ref a56, .ref a57, .ref a58, .ref a59, .ref a60, .ref a61, .ref a62, .ref a63, .ref a64, .ref a65, .ref a66, .ref a67, .ref a68, .ref a69, .ref a70, .ref a71, .ref a72, .ref a73, .ref a74, .ref a75, .ref a76, .ref a77, .ref a78, .int 0, .int 0, .ref a79, .ref a80, .int 0, .int 0, .int 0, .int 0, .ref a81, .int 0, .ref a82, .ref a83, .ref a84, .int 0, .int 0, .int 0, .int 0, .int 0, .int 0, .int 0, .int 0, .ref a85, .int 0, .ref a86, .ref a87, .ref a88, .ref a89, .int 0, .int 0])), (a55, .inl (cI, 2, .inl (upd (fun _ => 0) 0 100))), (a54, .inl (cI, 2, .inl (upd (fun _ => 0) 0 100))), (a58, .inl (cI, 4, .inl (upd (upd (fun _ => 0) 0 16) 1 16))), (a57, .inl (cI, 4, .inl (upd (upd (fun _ => 0) 0 16) 1 16))), (a59, .inl (cI, 2, .inl (fun _ => 0))), (a66, .inl (cI, 2, .inl (fun _ => 0))), (a84, .inl (cI, 2, .inl (fun _ => 0))), (a82, .inl (cI, 300000, .inl (fun _ => 0)))]) (k_rV hC hN hK hP hD (c114_X9_joined l G cI cJ cB cZ a0 a1 a2 a3 a4 a5 a6 a7 a8 a9 a10 a11 a12 a13 a14 a15 a16 a17 a18 a19 a20 a21 a22 a23 a24 a25 a26 a27 a28 a29 a30 a31 a32 a33 a34 a35 a36 a37 a38 a39 a40 a41 a42 a43 a44 a45 a46 1 (xs 2)) [0, 1, 2, 3, 4, 5, 6, 7, 8, 9, 10, 11] rfl (by decide) mi_X9_joined in_X9_joined se_X9_joined wm_L_109 9 0 rfl rfl rfl hl.1 rfl rfl (Nat.le_of_ble_eq_true rfl) ⟨(Nat.le_of_ble_eq_true rfl), (Nat.le_of_ble_eq_true rfl)⟩ dL_law_1007 ⟨(Nat.le_of_ble_eq_true rfl), (Nat.le_of_ble_eq_true rfl)⟩) hP hD hS hA [0, 1, 2, 3, 4, 5, 6, 7, 8, 9, 10, 11] [12, 13, 14, 15, 16, 17, 18, 19, 20] rfl rfl (by decide) (by decide) (fun r5 u5 H locs hp hP hD hS => ?_)
    have hP : va_P G cl [(a47, .inr (10, [.ref a48, .ref a49, .int 0, .int 0, .int 0, .int (-1), .int 0, .int 0, .int 0, .int 0, .long 0, .ref a50, .ref a51, .ref a52, .ref a53, .ref a54, .ref a55, .ref a56, .ref a57, .ref a58, .ref a59, .ref a60, .ref a61, .ref a62, .ref a63, .ref a64, .ref a65, .ref a66, .ref a67, .ref a68, .ref a69, .ref a70, .ref a71, .ref a72, .ref a73, .ref a74, .ref a75, .ref a76, .ref a77, .ref a78, .int 0, .int 0, .ref a79, .ref a80, .int 0, .int 0, .int 0, .int 0, .ref a81, .int 0, .ref a82, .ref a83, .ref a84, .int 0, .int 0, .int 0, .int 0, .int 0, .int 0, .int 0, .int 0, .ref a85, .int 0, .ref a86, .ref a87, .ref a88, .ref a89, .int 0, .int 0])), (a55, .inl (cI, 2, .inl (upd (fun _ => 0) 0 100))), (a54, .inl (cI, 2, .inl (upd (fun _ => 0) 0 100))), (a58, .inl (cI, 4, .inl (upd (upd (fun _ => 0) 0 16) 1 16))), (a57, .inl (cI, 4, .inl (upd (upd (fun _ => 0) 0 16) 1 16))), (a59, .inl (cI, 2, .inl (fun _ => 0))), (a66, .inl (cI, 2, .inl (fun _ => 0))), (a84, .inl (cI, 2, .inl (fun _ => 0))), (a82, .inl (cI, 300000, .inl (fun _ => 0)))] H := hP
    have hD : va_D A [(a47, .inr (10, [.ref a48, .ref a49, .int 0, .int 0, .int 0, .int (-1), .int 0, .int 0, .int 0, .int 0, .long 0, .ref a50, .ref a51, .ref a52, .ref a53, .ref a54, .ref a55, .ref a56, .ref a57, .ref a58, .ref a59, .ref a60, .ref a61, .ref a62, .ref a63, .ref a64, .ref a65, .ref a66, .ref a67, .ref a68, .ref a69, .ref a70, .ref a71, .ref a72, .ref a73, .ref a74, .ref a75, .ref a76, .ref a77, .ref a78, .int 0, .int 0, .ref a79, .ref a80, .int 0, .int 0, .int 0, .int 0, .ref a81, .int 0, .ref a82, .ref a83, .ref a84, .int 0, .int 0, .int 0, .int 0, .int 0, .int 0, .int 0, .int 0, .ref a85, .int 0, .ref a86, .ref a87, .ref a88, .ref a89, .int 0, .int 0])), (a55, .inl (cI, 2, .inl (upd (fun _ => 0) 0 100))), (a54, .inl (cI, 2, .inl (upd (fun _ => 0) 0 100))), (a58, .inl (cI, 4, .inl (upd (upd (fun _ => 0) 0 16) 1 16))), (a57, .inl (cI, 4, .inl (upd (upd (fun _ => 0) 0 16) 1 16))), (a59, .inl (cI, 2, .inl (fun _ => 0))), (a66, .inl (cI, 2, .inl (fun _ => 0))), (a84, .inl (cI, 2, .inl (fun _ => 0))), (a82, .inl (cI, 300000, .inl (fun _ => 0)))] := hD
    subst hp
    refine lv_aload_n hx hb dL_law_1010 rfl (lv_at hl 1 rfl) ?_
    refine lv_aload_n hx hb dL_law_1011 rfl (lv_at hl 3 rfl) ?_
    refine lv_iload_n hx hb dL_law_1012 rfl (lv_at hl 0 rfl) ?_
    refine lv_iconst (v := 1) hx hb dL_law_1013 (by decide) ?_
    refine lv_iadd hx hb dL_law_1014 ?_
    refine k_i 1 (by decide +kernel) ?_
    refine va_sld hx hb hX hbl hbA hS (i := 1) (k_in (k := 1) (by decide +kernel) (by decide)) dL_law_1015 ?_
    refine k_i (xs 1) (congrArg xs (by decide +kernel)) ?_
    refine lv_if_eq (tgt := 1023) hx hb dL_law_1016 (by decide) (fun c_6 => by have d_6 : (xs 1).toInt = 0 := (fa_eq _ _).mp c_6; omega) (fun c_6 => ?_)
    have d_6 : (xs 1).toInt ≠ 0 := fa_ne c_6
    refine lv_iconst (v := 1) hx hb dL_law_1019 (by decide) ?_
    refine lv_goto (tgt := 1024) hx hb dL_law_1020 (by decide) ?_
    refine lv_aload_n hx hb dL_law_1024 rfl (lv_at hl 3 rfl) ?_
    refine lv_iload_n hx hb dL_law_1025 rfl (lv_at hl 0 rfl) ?_
    refine lv_iconst (v := 2) hx hb dL_law_1026 (by decide) ?_
    refine lv_iadd hx hb dL_law_1027 ?_
    refine k_i 2 (by decide +kernel) ?_
    refine va_sld hx hb hX hbl hbA hS (i := 2) (k_in (k := 2) (by decide +kernel) (by decide)) dL_law_1028 ?_
    refine k_i (xs 2) (congrArg xs (by decide +kernel)) ?_
    refine k_ci (wr := []) (k_rV hC hN hK hP hD (c218_X10_joined l G cI cJ cB cZ a47 a48 a49 a50 a51 a52 a53 a54 a55 a56 a57 a58 a59 a60 a61 a62 a63 a64 a65 a66 a67 a68 a69 a70 a71 a72 a73 a74 a75 a76 a77 a78 a79 a80 a81 a82 a83 a84 a85 a86 a87 a88 a89 1 (xs 2)) [0, 1, 2, 3, 4, 5, 6, 7, 8] rfl (by decide) mi_X10_joined in_X10_joined se_X10_joined wm_L_113 10 0 rfl rfl rfl hl.1 rfl rfl (Nat.le_of_ble_eq_true rfl) ⟨(Nat.le_of_ble_eq_true rfl), (Nat.le_of_ble_eq_true rfl)⟩ dL_law_1029 ⟨(Nat.le_of_ble_eq_true rfl), (Nat.le_of_ble_eq_true rfl)⟩) hP hD hS hA [0, 1, 2, 3, 4, 5, 6, 7, 8] [] rfl rfl (by decide) (by decide) (fun r7 u7 H locs hp hP hD hS => ?_)
    have hP : va_P G cl [] H := hP
    have hD : va_D A [] := hD
    subst hp
    refine lv_icmp_eq (tgt := 1428) hx hb dL_law_1032 (by decide) (fun _ => ?_) (fun c_ => absurd (by decide +kernel) c_)
    exact law_tail hC hr hlk hX hbl hbA hfo hS hl (Nat.le_of_ble_eq_true rfl) (Nat.le_of_ble_eq_true rfl)
set_option maxRecDepth 100000 in
theorem wm_L_114 : Cond.methodLink RL 114 yX9_lieYear ∈ gw := gm (List.mem_of_getElem? (i := 1178) (by decide +kernel)) rfl
set_option maxRecDepth 100000 in
theorem mi_X9_lieYear : MI yX9_lieYear cX9_lieYear 5 (some .int) 2 := ⟨gm (List.mem_of_getElem? (i := 1181) rfl) rfl, gm (List.mem_of_getElem? (i := 112) (by decide +kernel)) rfl, by decide, by decide, by decide +kernel⟩
set_option maxRecDepth 100000 in
theorem in_X9_lieYear : Cond.instanceMethod yX9_lieYear ∈ gw := gm (List.mem_of_getElem? (i := 1179) (by decide +kernel)) rfl
set_option maxRecDepth 100000 in
theorem se_X9_lieYear : Cond.selects yX9_lieYear.cls yX9_lieYear yX9_lieYear ∈ gw := gm (List.mem_of_getElem? (i := 1180) (by decide +kernel)) rfl
set_option maxRecDepth 100000 in
theorem wm_L_117 : Cond.methodLink RL 117 yX10_lieYear ∈ gw := gm (List.mem_of_getElem? (i := 1815) (by decide +kernel)) rfl
set_option maxRecDepth 100000 in
theorem mi_X10_lieYear : MI yX10_lieYear cX10_lieYear 6 (some .int) 2 := ⟨gm (List.mem_of_getElem? (i := 1818) rfl) rfl, gm (List.mem_of_getElem? (i := 124) (by decide +kernel)) rfl, by decide, by decide, by decide +kernel⟩
set_option maxRecDepth 100000 in
theorem in_X10_lieYear : Cond.instanceMethod yX10_lieYear ∈ gw := gm (List.mem_of_getElem? (i := 1816) (by decide +kernel)) rfl
set_option maxRecDepth 100000 in
theorem se_X10_lieYear : Cond.selects yX10_lieYear.cls yX10_lieYear yX10_lieYear ∈ gw := gm (List.mem_of_getElem? (i := 1817) (by decide +kernel)) rfl
set_option maxHeartbeats 4000000 in
set_option maxRecDepth 100000 in
theorem law_lieYear {p : Program} {l : Launch} {e : Env} {s : State} {m : MethodId} {below : List Frame} {meth : Method} {c : Code} {b : Nat} {xs : Nat → Int32} {A : Nat → Prop} {H : Heap} {locs : List Loc} {ls : Array Slot} {G : va_G} {cI cJ cB cZ : ClassId} (a0 a1 a2 a3 a4 a5 a6 a7 a8 a9 a10 a11 a12 a13 a14 a15 a16 a17 a18 a19 a20 a21 a22 a23 a24 a25 a26 a27 a28 a29 a30 a31 a32 a33 a34 a35 a36 a37 a38 a39 a40 a41 a42 a43 a44 a45 a46 a47 a48 a49 a50 a51 a52 a53 a54 a55 a56 a57 a58 a59 a60 a61 : Nat) (hC : CallFix p m c code 4 s #[Value.ref b] gw R_law) (hr : meth.sig.returnType = ret) (hlk : meth.locks = false) (hN : NW s) (hK : va_K G cl (TY cI cJ cB cZ) s) (hX : va_X b 6 xs s s.heap) (hbl : b < s.heap.size) (hA : ∀ q, s.heap.size ≤ q → A q) (hbA : ¬ A b) (hfo : ∀ q, A q → s.heap.size ≤ q) (hP : va_P G cl [(a0, .inr (9, [.ref a1, .ref a2, .ref a3, .int 0, .int 0, .ref a4, .ref a5, .ref a6, .ref a7])), (a1, .inr (7, [.int 100, .int 100, .int 0, .ref a8, .ref a9, .int 0, .ref a10, .ref a11, .ref a12, .ref a13, .ref a14, .ref a15, .ref a16, .ref a17, .ref a18])), (a19, .inr (10, [.ref a20, .ref a21, .int 0, .int 0, .int 0, .int (-1), .int 0, .int 0, .int 0, .int 0, .long 0, .ref a22, .ref a23, .ref a24, .ref a25, .ref a26, .ref a27, .ref a28, .ref a29, .ref a30, .ref a31, .ref a32, .ref a33, .ref a34, .ref a35, .ref a36, .ref a37, .ref a38, .ref a39, .ref a40, .ref a41, .ref a42, .ref a43, .ref a44, .ref a45, .ref a46, .ref a47, .ref a48, .ref a49, .ref a50, .int 0, .int 0, .ref a51, .ref a52, .int 0, .int 0, .int 0, .int 0, .ref a53, .int 0, .ref a54, .ref a55, .ref a56, .int 0, .int 0, .int 0, .int 0, .int 0, .int 0, .int 0, .int 0, .ref a57, .int 0, .ref a58, .ref a59, .ref a60, .ref a61, .int 0, .int 0])), (a31, .inl (cI, 2, .inl (fun _ => 0)))] H) (hD : va_D A [(a0, .inr (9, [.ref a1, .ref a2, .ref a3, .int 0, .int 0, .ref a4, .ref a5, .ref a6, .ref a7])), (a1, .inr (7, [.int 100, .int 100, .int 0, .ref a8, .ref a9, .int 0, .ref a10, .ref a11, .ref a12, .ref a13, .ref a14, .ref a15, .ref a16, .ref a17, .ref a18])), (a19, .inr (10, [.ref a20, .ref a21, .int 0, .int 0, .int 0, .int (-1), .int 0, .int 0, .int 0, .int 0, .long 0, .ref a22, .ref a23, .ref a24, .ref a25, .ref a26, .ref a27, .ref a28, .ref a29, .ref a30, .ref a31, .ref a32, .ref a33, .ref a34, .ref a35, .ref a36, .ref a37, .ref a38, .ref a39, .ref a40, .ref a41, .ref a42, .ref a43, .ref a44, .ref a45, .ref a46, .ref a47, .ref a48, .ref a49, .ref a50, .int 0, .int 0, .ref a51, .ref a52, .int 0, .int 0, .int 0, .int 0, .ref a53, .int 0, .ref a54, .ref a55, .ref a56, .int 0, .int 0, .int 0, .int 0, .int 0, .int 0, .int 0, .int 0, .ref a57, .int 0, .ref a58, .ref a59, .ref a60, .ref a61, .int 0, .int 0])), (a31, .inl (cI, 2, .inl (fun _ => 0)))]) (hS : va_S A s.heap H locs) (hl : lv_has ls 4 [(3, .int 0), (2, .ref a19), (1, .ref a0), (0, .ref b)]) : W p l e room_1 s m #[Value.ref b] below meth c H locs 1000 1000000 (lw_Z below #[Value.ref b] s) (F0 m 1037 ls []) := by
  obtain ⟨hx, hb, hml, hown, hts⟩ := id hC
  refine lv_aload_n hx hb dL_law_1037 rfl (lv_at hl 2 rfl) ?_
  refine lv_aload_n hx hb dL_law_1038 rfl (lv_at hl 3 rfl) ?_
  refine lv_iload_n hx hb dL_law_1039 rfl (lv_at hl 0 rfl) ?_
  refine lv_iconst (v := 1) hx hb dL_law_1040 (by decide) ?_
  refine lv_iadd hx hb dL_law_1041 ?_
  refine k_i 1 (by decide +kernel) ?_
  refine va_sld hx hb hX hbl hbA hS (i := 1) (k_in (k := 1) (by decide +kernel) (by decide)) dL_law_1042 ?_
  refine k_i (xs 1) (congrArg xs (by decide +kernel)) ?_
  refine lv_aload_n hx hb dL_law_1043 rfl (lv_at hl 3 rfl) ?_
  refine lv_iload_n hx hb dL_law_1044 rfl (lv_at hl 0 rfl) ?_
  refine lv_iconst (v := 2) hx hb dL_law_1045 (by decide) ?_
  refine lv_iadd hx hb dL_law_1046 ?_
  refine k_i 2 (by decide +kernel) ?_
  refine va_sld hx hb hX hbl hbA hS (i := 2) (k_in (k := 2) (by decide +kernel) (by decide)) dL_law_1047 ?_
  refine k_i (xs 2) (congrArg xs (by decide +kernel)) ?_
  refine k_ci (wr := [(a19, .inr (10, [.ref a20, .ref a21, .int 0, .int 0, .int 0, .int (-1), .int 0, .int 0, .int 0, .int 0, .long 0, .ref a22, .ref a23, .ref a24, .ref a25, .ref a26, .ref a27, .ref a28, .ref a29, .ref a30, .ref a31, .ref a32, .ref a33, .ref a34, .ref a35, .ref a36, .ref a37, .ref a38, .ref a39, .ref a40, .ref a41, .ref a42, .ref a43, .ref a44, .ref a45, .ref a46, .ref a47, .ref a48, .ref a49, .ref a50, .int 0, .int 0, .ref a51, .ref a52, .int 0, .int 0, .int 0, .int 0, .ref a53, .int 0, .ref a54, .ref a55, .ref a56, .int 0, .int 0, .int 0, .int 0, .int 0, .int 0, .int 0, .int 0, .ref a57, .int 0, .ref a58, .ref a59, .ref a60, .ref a61, .int 0, .int 0])), (a31, .inl (cI, 2, .inl (fun _ => 0)))]) (k_rV hC hN hK hP hD (c115_X9_lieYear l G cI cJ cB cZ a0 a1 a2 a3 a4 a5 a6 a7 a8 a9 a10 a11 a12 a13 a14 a15 a16 a17 a18 (xs 1) (xs 2)) [0, 1] rfl (by decide) mi_X9_lieYear in_X9_lieYear se_X9_lieYear wm_L_114 9 0 rfl rfl rfl hl.1 rfl rfl (Nat.le_of_ble_eq_true rfl) ⟨(Nat.le_of_ble_eq_true rfl), (Nat.le_of_ble_eq_true rfl)⟩ dL_law_1048 ⟨(Nat.le_of_ble_eq_true rfl), (Nat.le_of_ble_eq_true rfl)⟩) hP hD hS hA [0, 1] [2, 3] rfl rfl (by decide) (by decide) (fun r1 u1 H locs hp hP hD hS => ?_)
  have hP : va_P G cl [(a19, .inr (10, [.ref a20, .ref a21, .int 0, .int 0, .int 0, .int (-1), .int 0, .int 0, .int 0, .int 0, .long 0, .ref a22, .ref a23, .ref a24, .ref a25, .ref a26, .ref a27, .ref a28, .ref a29, .ref a30, .ref a31, .ref a32, .ref a33, .ref a34, .ref a35, .ref a36, .ref a37, .ref a38, .ref a39, .ref a40, .ref a41, .ref a42, .ref a43, .ref a44, .ref a45, .ref a46, .ref a47, .ref a48, .ref a49, .ref a50, .int 0, .int 0, .ref a51, .ref a52, .int 0, .int 0, .int 0, .int 0, .ref a53, .int 0, .ref a54, .ref a55, .ref a56, .int 0, .int 0, .int 0, .int 0, .int 0, .int 0, .int 0, .int 0, .ref a57, .int 0, .ref a58, .ref a59, .ref a60, .ref a61, .int 0, .int 0])), (a31, .inl (cI, 2, .inl (fun _ => 0)))] H := hP
  have hD : va_D A [(a19, .inr (10, [.ref a20, .ref a21, .int 0, .int 0, .int 0, .int (-1), .int 0, .int 0, .int 0, .int 0, .long 0, .ref a22, .ref a23, .ref a24, .ref a25, .ref a26, .ref a27, .ref a28, .ref a29, .ref a30, .ref a31, .ref a32, .ref a33, .ref a34, .ref a35, .ref a36, .ref a37, .ref a38, .ref a39, .ref a40, .ref a41, .ref a42, .ref a43, .ref a44, .ref a45, .ref a46, .ref a47, .ref a48, .ref a49, .ref a50, .int 0, .int 0, .ref a51, .ref a52, .int 0, .int 0, .int 0, .int 0, .ref a53, .int 0, .ref a54, .ref a55, .ref a56, .int 0, .int 0, .int 0, .int 0, .int 0, .int 0, .int 0, .int 0, .ref a57, .int 0, .ref a58, .ref a59, .ref a60, .ref a61, .int 0, .int 0])), (a31, .inl (cI, 2, .inl (fun _ => 0)))] := hD
  subst hp
  refine lv_aload_n hx hb dL_law_1051 rfl (lv_at hl 1 rfl) ?_
  refine lv_aload_n hx hb dL_law_1052 rfl (lv_at hl 3 rfl) ?_
  refine lv_iload_n hx hb dL_law_1053 rfl (lv_at hl 0 rfl) ?_
  refine lv_iconst (v := 1) hx hb dL_law_1054 (by decide) ?_
  refine lv_iadd hx hb dL_law_1055 ?_
  refine k_i 1 (by decide +kernel) ?_
  refine va_sld hx hb hX hbl hbA hS (i := 1) (k_in (k := 1) (by decide +kernel) (by decide)) dL_law_1056 ?_
  refine k_i (xs 1) (congrArg xs (by decide +kernel)) ?_
  refine lv_aload_n hx hb dL_law_1057 rfl (lv_at hl 3 rfl) ?_
  refine lv_iload_n hx hb dL_law_1058 rfl (lv_at hl 0 rfl) ?_
  refine lv_iconst (v := 2) hx hb dL_law_1059 (by decide) ?_
  refine lv_iadd hx hb dL_law_1060 ?_
  refine k_i 2 (by decide +kernel) ?_
  refine va_sld hx hb hX hbl hbA hS (i := 2) (k_in (k := 2) (by decide +kernel) (by decide)) dL_law_1061 ?_
  refine k_i (xs 2) (congrArg xs (by decide +kernel)) ?_
  refine k_ci (wr := []) (k_rV hC hN hK hP hD (c219_X10_lieYear l G cI cJ cB cZ a19 a20 a21 a22 a23 a24 a25 a26 a27 a28 a29 a30 a31 a32 a33 a34 a35 a36 a37 a38 a39 a40 a41 a42 a43 a44 a45 a46 a47 a48 a49 a50 a51 a52 a53 a54 a55 a56 a57 a58 a59 a60 a61 (xs 1) (xs 2)) [0, 1] rfl (by decide) mi_X10_lieYear in_X10_lieYear se_X10_lieYear wm_L_117 10 0 rfl rfl rfl hl.1 rfl rfl (Nat.le_of_ble_eq_true rfl) ⟨(Nat.le_of_ble_eq_true rfl), (Nat.le_of_ble_eq_true rfl)⟩ dL_law_1062 ⟨(Nat.le_of_ble_eq_true rfl), (Nat.le_of_ble_eq_true rfl)⟩) hP hD hS hA [0, 1] [] rfl rfl (by decide) (by decide) (fun r2 u2 H locs hp hP hD hS => ?_)
  have hP : va_P G cl [] H := hP
  have hD : va_D A [] := hD
  subst hp
  refine lv_icmp_eq (tgt := 1428) hx hb dL_law_1065 (by decide) (fun _ => ?_) (fun c_ => absurd (by decide +kernel) c_)
  exact law_tail hC hr hlk hX hbl hbA hfo hS hl (Nat.le_of_ble_eq_true rfl) (Nat.le_of_ble_eq_true rfl)
set_option maxRecDepth 100000 in
theorem wm_L_118 : Cond.methodLink RL 118 yX9_goods ∈ gw := gm (List.mem_of_getElem? (i := 1188) (by decide +kernel)) rfl
set_option maxRecDepth 100000 in
theorem mi_X9_goods : MI yX9_goods cX9_goods 8 (some .int) 5 := ⟨gm (List.mem_of_getElem? (i := 1191) rfl) rfl, gm (List.mem_of_getElem? (i := 112) (by decide +kernel)) rfl, by decide, by decide, by decide +kernel⟩
set_option maxRecDepth 100000 in
theorem in_X9_goods : Cond.instanceMethod yX9_goods ∈ gw := gm (List.mem_of_getElem? (i := 1189) (by decide +kernel)) rfl
set_option maxRecDepth 100000 in
theorem se_X9_goods : Cond.selects yX9_goods.cls yX9_goods yX9_goods ∈ gw := gm (List.mem_of_getElem? (i := 1190) (by decide +kernel)) rfl
set_option maxRecDepth 100000 in
theorem wm_L_122 : Cond.methodLink RL 122 yX10_goods ∈ gw := gm (List.mem_of_getElem? (i := 1819) (by decide +kernel)) rfl
set_option maxRecDepth 100000 in
theorem mi_X10_goods : MI yX10_goods cX10_goods 7 (some .int) 5 := ⟨gm (List.mem_of_getElem? (i := 1822) rfl) rfl, gm (List.mem_of_getElem? (i := 124) (by decide +kernel)) rfl, by decide, by decide, by decide +kernel⟩
set_option maxRecDepth 100000 in
theorem in_X10_goods : Cond.instanceMethod yX10_goods ∈ gw := gm (List.mem_of_getElem? (i := 1820) (by decide +kernel)) rfl
set_option maxRecDepth 100000 in
theorem se_X10_goods : Cond.selects yX10_goods.cls yX10_goods yX10_goods ∈ gw := gm (List.mem_of_getElem? (i := 1821) (by decide +kernel)) rfl
set_option maxHeartbeats 4000000 in
set_option maxRecDepth 100000 in
theorem law_goods {p : Program} {l : Launch} {e : Env} {s : State} {m : MethodId} {below : List Frame} {meth : Method} {c : Code} {b : Nat} {xs : Nat → Int32} {A : Nat → Prop} {H : Heap} {locs : List Loc} {ls : Array Slot} {G : va_G} {cI cJ cB cZ : ClassId} (a0 a1 a2 a3 a4 a5 a6 a7 a8 a9 a10 a11 a12 a13 a14 a15 a16 a17 a18 a19 a20 a21 a22 a23 a24 a25 a26 a27 a28 a29 a30 a31 a32 a33 a34 a35 a36 a37 a38 a39 a40 a41 a42 a43 a44 a45 a46 a47 a48 a49 a50 a51 a52 a53 a54 a55 a56 a57 a58 a59 a60 a61 : Nat) (hC : CallFix p m c code 4 s #[Value.ref b] gw R_law) (hr : meth.sig.returnType = ret) (hlk : meth.locks = false) (hN : NW s) (hK : va_K G cl (TY cI cJ cB cZ) s) (hX : va_X b 6 xs s s.heap) (hbl : b < s.heap.size) (hA : ∀ q, s.heap.size ≤ q → A q) (hbA : ¬ A b) (hfo : ∀ q, A q → s.heap.size ≤ q) (hP : va_P G cl [(a0, .inr (9, [.ref a1, .ref a2, .ref a3, .int 0, .int 0, .ref a4, .ref a5, .ref a6, .ref a7])), (a1, .inr (7, [.int 100, .int 100, .int 0, .ref a8, .ref a9, .int 0, .ref a10, .ref a11, .ref a12, .ref a13, .ref a14, .ref a15, .ref a16, .ref a17, .ref a18])), (a19, .inr (10, [.ref a20, .ref a21, .int 0, .int 0, .int 0, .int (-1), .int 0, .int 0, .int 0, .int 0, .long 0, .ref a22, .ref a23, .ref a24, .ref a25, .ref a26, .ref a27, .ref a28, .ref a29, .ref a30, .ref a31, .ref a32, .ref a33, .ref a34, .ref a35, .ref a36, .ref a37, .ref a38, .ref a39, .ref a40, .ref a41, .ref a42, .ref a43, .ref a44, .ref a45, .ref a46, .ref a47, .ref a48, .ref a49, .ref a50, .int 0, .int 0, .ref a51, .ref a52, .int 0, .int 0, .int 0, .int 0, .ref a53, .int 0, .ref a54, .ref a55, .ref a56, .int 0, .int 0, .int 0, .int 0, .int 0, .int 0, .int 0, .int 0, .ref a57, .int 0, .ref a58, .ref a59, .ref a60, .ref a61, .int 0, .int 0])), (a31, .inl (cI, 2, .inl (fun _ => 0)))] H) (hD : va_D A [(a0, .inr (9, [.ref a1, .ref a2, .ref a3, .int 0, .int 0, .ref a4, .ref a5, .ref a6, .ref a7])), (a1, .inr (7, [.int 100, .int 100, .int 0, .ref a8, .ref a9, .int 0, .ref a10, .ref a11, .ref a12, .ref a13, .ref a14, .ref a15, .ref a16, .ref a17, .ref a18])), (a19, .inr (10, [.ref a20, .ref a21, .int 0, .int 0, .int 0, .int (-1), .int 0, .int 0, .int 0, .int 0, .long 0, .ref a22, .ref a23, .ref a24, .ref a25, .ref a26, .ref a27, .ref a28, .ref a29, .ref a30, .ref a31, .ref a32, .ref a33, .ref a34, .ref a35, .ref a36, .ref a37, .ref a38, .ref a39, .ref a40, .ref a41, .ref a42, .ref a43, .ref a44, .ref a45, .ref a46, .ref a47, .ref a48, .ref a49, .ref a50, .int 0, .int 0, .ref a51, .ref a52, .int 0, .int 0, .int 0, .int 0, .ref a53, .int 0, .ref a54, .ref a55, .ref a56, .int 0, .int 0, .int 0, .int 0, .int 0, .int 0, .int 0, .int 0, .ref a57, .int 0, .ref a58, .ref a59, .ref a60, .ref a61, .int 0, .int 0])), (a31, .inl (cI, 2, .inl (fun _ => 0)))]) (hS : va_S A s.heap H locs) (hl : lv_has ls 4 [(3, .int 0), (2, .ref a19), (1, .ref a0), (0, .ref b)]) : W p l e room_1 s m #[Value.ref b] below meth c H locs 1000 1000000 (lw_Z below #[Value.ref b] s) (F0 m 1070 ls []) := by
  obtain ⟨hx, hb, hml, hown, hts⟩ := id hC
  refine lv_aload_n hx hb dL_law_1070 rfl (lv_at hl 2 rfl) ?_
  refine lv_aload_n hx hb dL_law_1071 rfl (lv_at hl 3 rfl) ?_
  refine lv_iload_n hx hb dL_law_1072 rfl (lv_at hl 0 rfl) ?_
  refine lv_iconst (v := 1) hx hb dL_law_1073 (by decide) ?_
  refine lv_iadd hx hb dL_law_1074 ?_
  refine k_i 1 (by decide +kernel) ?_
  refine va_sld hx hb hX hbl hbA hS (i := 1) (k_in (k := 1) (by decide +kernel) (by decide)) dL_law_1075 ?_
  refine k_i (xs 1) (congrArg xs (by decide +kernel)) ?_
  refine lv_aload_n hx hb dL_law_1076 rfl (lv_at hl 3 rfl) ?_
  refine lv_iload_n hx hb dL_law_1077 rfl (lv_at hl 0 rfl) ?_
  refine lv_iconst (v := 2) hx hb dL_law_1078 (by decide) ?_
  refine lv_iadd hx hb dL_law_1079 ?_
  refine k_i 2 (by decide +kernel) ?_
  refine va_sld hx hb hX hbl hbA hS (i := 2) (k_in (k := 2) (by decide +kernel) (by decide)) dL_law_1080 ?_
  refine k_i (xs 2) (congrArg xs (by decide +kernel)) ?_
  refine lv_if_eq (tgt := 1088) hx hb dL_law_1081 (by decide) (fun c_1 => ?_) (fun c_1 => ?_)
  · have d_1 : (xs 2).toInt = 0 := (fa_eq _ _).mp c_1
    refine lv_iconst (v := 0) hx hb dL_law_1088 (by decide) ?_
    refine lv_aload_n hx hb dL_law_1089 rfl (lv_at hl 3 rfl) ?_
    refine lv_iload_n hx hb dL_law_1090 rfl (lv_at hl 0 rfl) ?_
    refine lv_iconst (v := 3) hx hb dL_law_1091 (by decide) ?_
    refine lv_iadd hx hb dL_law_1092 ?_
    refine k_i 3 (by decide +kernel) ?_
    refine va_sld hx hb hX hbl hbA hS (i := 3) (k_in (k := 3) (by decide +kernel) (by decide)) dL_law_1093 ?_
    refine k_i (xs 3) (congrArg xs (by decide +kernel)) ?_
    refine lv_aload_n hx hb dL_law_1094 rfl (lv_at hl 3 rfl) ?_
    refine lv_iload_n hx hb dL_law_1095 rfl (lv_at hl 0 rfl) ?_
    refine lv_iconst (v := 4) hx hb dL_law_1096 (by decide) ?_
    refine lv_iadd hx hb dL_law_1097 ?_
    refine k_i 4 (by decide +kernel) ?_
    refine va_sld hx hb hX hbl hbA hS (i := 4) (k_in (k := 4) (by decide +kernel) (by decide)) dL_law_1098 ?_
    refine k_i (xs 4) (congrArg xs (by decide +kernel)) ?_
    refine lv_if_eq (tgt := 1106) hx hb dL_law_1099 (by decide) (fun c_2 => ?_) (fun c_2 => ?_)
    · have d_2 : (xs 4).toInt = 0 := (fa_eq _ _).mp c_2
      refine lv_iconst (v := 0) hx hb dL_law_1106 (by decide) ?_
      refine lv_aload_n hx hb dL_law_1107 rfl (lv_at hl 3 rfl) ?_
      refine lv_iload_n hx hb dL_law_1108 rfl (lv_at hl 0 rfl) ?_
      refine lv_iconst (v := 5) hx hb dL_law_1109 (by decide) ?_
      refine lv_iadd hx hb dL_law_1110 ?_
      refine k_i 5 (by decide +kernel) ?_
      refine va_sld hx hb hX hbl hbA hS (i := 5) (k_in (k := 5) (by decide +kernel) (by decide)) dL_law_1111 ?_
      refine k_i (xs 5) (congrArg xs (by decide +kernel)) ?_
      refine k_ci (wr := [(a19, .inr (10, [.ref a20, .ref a21, .int 0, .int 0, .int 0, .int (-1), .int 0, .int 0, .int 0, .int 0, .long 0, .ref a22, .ref a23, .ref a24, .ref a25, .ref a26, .ref a27, .ref a28, .ref a29, .ref a30, .ref a31, .ref a32, .ref a33, .ref a34, .ref a35, .ref a36, .ref a37, .ref a38, .ref a39, .ref a40, .ref a41, .ref a42, .ref a43, .ref a44, .ref a45, .ref a46, .ref a47, .ref a48, .ref a49, .ref a50, .int 0, .int 0, .ref a51, .ref a52, .int 0, .int 0, .int 0, .int 0, .ref a53, .int 0, .ref a54, .ref a55, .ref a56, .int 0, .int 0, .int 0, .int 0, .int 0, .int 0, .int 0, .int 0, .ref a57, .int 0, .ref a58, .ref a59, .ref a60, .ref a61, .int 0, .int 0])), (a31, .inl (cI, 2, .inl (fun _ => 0)))]) (k_rV hC hN hK hP hD (c116_X9_goods l G cI cJ cB cZ a0 a1 a2 a3 a4 a5 a6 a7 a8 a9 a10 a11 a12 a13 a14 a15 a16 a17 a18 (xs 1) 0 (xs 3) 0 (xs 5)) [0, 1] rfl (by decide) mi_X9_goods in_X9_goods se_X9_goods wm_L_118 9 0 rfl rfl rfl hl.1 rfl rfl (Nat.le_of_ble_eq_true rfl) ⟨(Nat.le_of_ble_eq_true rfl), (Nat.le_of_ble_eq_true rfl)⟩ dL_law_1112 ⟨(Nat.le_of_ble_eq_true rfl), (Nat.le_of_ble_eq_true rfl)⟩) hP hD hS hA [0, 1] [2, 3] rfl rfl (by decide) (by decide) (fun r3 u3 H locs hp hP hD hS => ?_)
      have hP : va_P G cl [(a19, .inr (10, [.ref a20, .ref a21, .int 0, .int 0, .int 0, .int (-1), .int 0, .int 0, .int 0, .int 0, .long 0, .ref a22, .ref a23, .ref a24, .ref a25, .ref a26, .ref a27, .ref a28, .ref a29, .ref a30, .ref a31, .ref a32, .ref a33, .ref a34, .ref a35, .ref a36, .ref a37, .ref a38, .ref a39, .ref a40, .ref a41, .ref a42, .ref a43, .ref a44, .ref a45, .ref a46, .ref a47, .ref a48, .ref a49, .ref a50, .int 0, .int 0, .ref a51, .ref a52, .int 0, .int 0, .int 0, .int 0, .ref a53, .int 0, .ref a54, .ref a55, .ref a56, .int 0, .int 0, .int 0, .int 0, .int 0, .int 0, .int 0, .int 0, .ref a57, .int 0, .ref a58, .ref a59, .ref a60, .ref a61, .int 0, .int 0])), (a31, .inl (cI, 2, .inl (fun _ => 0)))] H := hP
      have hD : va_D A [(a19, .inr (10, [.ref a20, .ref a21, .int 0, .int 0, .int 0, .int (-1), .int 0, .int 0, .int 0, .int 0, .long 0, .ref a22, .ref a23, .ref a24, .ref a25, .ref a26, .ref a27, .ref a28, .ref a29, .ref a30, .ref a31, .ref a32, .ref a33, .ref a34, .ref a35, .ref a36, .ref a37, .ref a38, .ref a39, .ref a40, .ref a41, .ref a42, .ref a43, .ref a44, .ref a45, .ref a46, .ref a47, .ref a48, .ref a49, .ref a50, .int 0, .int 0, .ref a51, .ref a52, .int 0, .int 0, .int 0, .int 0, .ref a53, .int 0, .ref a54, .ref a55, .ref a56, .int 0, .int 0, .int 0, .int 0, .int 0, .int 0, .int 0, .int 0, .ref a57, .int 0, .ref a58, .ref a59, .ref a60, .ref a61, .int 0, .int 0])), (a31, .inl (cI, 2, .inl (fun _ => 0)))] := hD
      subst hp
      refine lv_aload_n hx hb dL_law_1115 rfl (lv_at hl 1 rfl) ?_
      refine lv_aload_n hx hb dL_law_1116 rfl (lv_at hl 3 rfl) ?_
      refine lv_iload_n hx hb dL_law_1117 rfl (lv_at hl 0 rfl) ?_
      refine lv_iconst (v := 1) hx hb dL_law_1118 (by decide) ?_
      refine lv_iadd hx hb dL_law_1119 ?_
      refine k_i 1 (by decide +kernel) ?_
      refine va_sld hx hb hX hbl hbA hS (i := 1) (k_in (k := 1) (by decide +kernel) (by decide)) dL_law_1120 ?_
      refine k_i (xs 1) (congrArg xs (by decide +kernel)) ?_
      refine lv_aload_n hx hb dL_law_1121 rfl (lv_at hl 3 rfl) ?_
      refine lv_iload_n hx hb dL_law_1122 rfl (lv_at hl 0 rfl) ?_
      refine lv_iconst (v := 2) hx hb dL_law_1123 (by decide) ?_
      refine lv_iadd hx hb dL_law_1124 ?_
      refine k_i 2 (by decide +kernel) ?_
      refine va_sld hx hb hX hbl hbA hS (i := 2) (k_in (k := 2) (by decide +kernel) (by decide)) dL_law_1125 ?_
      refine k_i (xs 2) (congrArg xs (by decide +kernel)) ?_
      refine lv_if_eq (tgt := 1133) hx hb dL_law_1126 (by decide) (fun c_4 => ?_) (fun c_4 => by have d_4 : (xs 2).toInt ≠ 0 := fa_ne c_4; omega)
      have d_4 : (xs 2).toInt = 0 := (fa_eq _ _).mp c_4
      refine lv_iconst (v := 0) hx hb dL_law_1133 (by decide) ?_
      refine lv_aload_n hx hb dL_law_1134 rfl (lv_at hl 3 rfl) ?_
      refine lv_iload_n hx hb dL_law_1135 rfl (lv_at hl 0 rfl) ?_
      refine lv_iconst (v := 3) hx hb dL_law_1136 (by decide) ?_
      refine lv_iadd hx hb dL_law_1137 ?_
      refine k_i 3 (by decide +kernel) ?_
      refine va_sld hx hb hX hbl hbA hS (i := 3) (k_in (k := 3) (by decide +kernel) (by decide)) dL_law_1138 ?_
      refine k_i (xs 3) (congrArg xs (by decide +kernel)) ?_
      refine lv_aload_n hx hb dL_law_1139 rfl (lv_at hl 3 rfl) ?_
      refine lv_iload_n hx hb dL_law_1140 rfl (lv_at hl 0 rfl) ?_
      refine lv_iconst (v := 4) hx hb dL_law_1141 (by decide) ?_
      refine lv_iadd hx hb dL_law_1142 ?_
      refine k_i 4 (by decide +kernel) ?_
      refine va_sld hx hb hX hbl hbA hS (i := 4) (k_in (k := 4) (by decide +kernel) (by decide)) dL_law_1143 ?_
      refine k_i (xs 4) (congrArg xs (by decide +kernel)) ?_
      refine lv_if_eq (tgt := 1151) hx hb dL_law_1144 (by decide) (fun c_5 => ?_) (fun c_5 => by have d_5 : (xs 4).toInt ≠ 0 := fa_ne c_5; omega)
      have d_5 : (xs 4).toInt = 0 := (fa_eq _ _).mp c_5
      refine lv_iconst (v := 0) hx hb dL_law_1151 (by decide) ?_
      refine lv_aload_n hx hb dL_law_1152 rfl (lv_at hl 3 rfl) ?_
      refine lv_iload_n hx hb dL_law_1153 rfl (lv_at hl 0 rfl) ?_
      refine lv_iconst (v := 5) hx hb dL_law_1154 (by decide) ?_
      refine lv_iadd hx hb dL_law_1155 ?_
      refine k_i 5 (by decide +kernel) ?_
      refine va_sld hx hb hX hbl hbA hS (i := 5) (k_in (k := 5) (by decide +kernel) (by decide)) dL_law_1156 ?_
      refine k_i (xs 5) (congrArg xs (by decide +kernel)) ?_
      refine k_ci (wr := []) (k_rV hC hN hK hP hD (c220_X10_goods l G cI cJ cB cZ a19 a20 a21 a22 a23 a24 a25 a26 a27 a28 a29 a30 a31 a32 a33 a34 a35 a36 a37 a38 a39 a40 a41 a42 a43 a44 a45 a46 a47 a48 a49 a50 a51 a52 a53 a54 a55 a56 a57 a58 a59 a60 a61 (xs 1) 0 (xs 3) 0 (xs 5)) [0, 1] rfl (by decide) mi_X10_goods in_X10_goods se_X10_goods wm_L_122 10 0 rfl rfl rfl hl.1 rfl rfl (Nat.le_of_ble_eq_true rfl) ⟨(Nat.le_of_ble_eq_true rfl), (Nat.le_of_ble_eq_true rfl)⟩ dL_law_1157 ⟨(Nat.le_of_ble_eq_true rfl), (Nat.le_of_ble_eq_true rfl)⟩) hP hD hS hA [0, 1] [] rfl rfl (by decide) (by decide) (fun r6 u6 H locs hp hP hD hS => ?_)
      have hP : va_P G cl [] H := hP
      have hD : va_D A [] := hD
      subst hp
      refine lv_icmp_eq (tgt := 1428) hx hb dL_law_1160 (by decide) (fun _ => ?_) (fun c_ => absurd (by decide +kernel) c_)
      exact law_tail hC hr hlk hX hbl hbA hfo hS hl (Nat.le_of_ble_eq_true rfl) (Nat.le_of_ble_eq_true rfl)
    · have d_2 : (xs 4).toInt ≠ 0 := fa_ne c_2
      refine lv_iconst (v := 1) hx hb dL_law_1102 (by decide) ?_
      refine lv_goto (tgt := 1107) hx hb dL_law_1103 (by decide) ?_
      refine lv_aload_n hx hb dL_law_1107 rfl (lv_at hl 3 rfl) ?_
      refine lv_iload_n hx hb dL_law_1108 rfl (lv_at hl 0 rfl) ?_
      refine lv_iconst (v := 5) hx hb dL_law_1109 (by decide) ?_
      refine lv_iadd hx hb dL_law_1110 ?_
      refine k_i 5 (by decide +kernel) ?_
      refine va_sld hx hb hX hbl hbA hS (i := 5) (k_in (k := 5) (by decide +kernel) (by decide)) dL_law_1111 ?_
      refine k_i (xs 5) (congrArg xs (by decide +kernel)) ?_
      refine k_ci (wr := [(a19, .inr (10, [.ref a20, .ref a21, .int 0, .int 0, .int 0, .int (-1), .int 0, .int 0, .int 0, .int 0, .long 0, .ref a22, .ref a23, .ref a24, .ref a25, .ref a26, .ref a27, .ref a28, .ref a29, .ref a30, .ref a31, .ref a32, .ref a33, .ref a34, .ref a35, .ref a36, .ref a37, .ref a38, .ref a39, .ref a40, .ref a41, .ref a42, .ref a43, .ref a44, .ref a45, .ref a46, .ref a47, .ref a48, .ref a49, .ref a50, .int 0, .int 0, .ref a51, .ref a52, .int 0, .int 0, .int 0, .int 0, .ref a53, .int 0, .ref a54, .ref a55, .ref a56, .int 0, .int 0, .int 0, .int 0, .int 0, .int 0, .int 0, .int 0, .ref a57, .int 0, .ref a58, .ref a59, .ref a60, .ref a61, .int 0, .int 0])), (a31, .inl (cI, 2, .inl (fun _ => 0)))]) (k_rV hC hN hK hP hD (c116_X9_goods l G cI cJ cB cZ a0 a1 a2 a3 a4 a5 a6 a7 a8 a9 a10 a11 a12 a13 a14 a15 a16 a17 a18 (xs 1) 0 (xs 3) 1 (xs 5)) [0, 1] rfl (by decide) mi_X9_goods in_X9_goods se_X9_goods wm_L_118 9 0 rfl rfl rfl hl.1 rfl rfl (Nat.le_of_ble_eq_true rfl) ⟨(Nat.le_of_ble_eq_true rfl), (Nat.le_of_ble_eq_true rfl)⟩ dL_law_1112 ⟨(Nat.le_of_ble_eq_true rfl), (Nat.le_of_ble_eq_true rfl)⟩) hP hD hS hA [0, 1] [2, 3] rfl rfl (by decide) (by decide) (fun r7 u7 H locs hp hP hD hS => ?_)
      have hP : va_P G cl [(a19, .inr (10, [.ref a20, .ref a21, .int 0, .int 0, .int 0, .int (-1), .int 0, .int 0, .int 0, .int 0, .long 0, .ref a22, .ref a23, .ref a24, .ref a25, .ref a26, .ref a27, .ref a28, .ref a29, .ref a30, .ref a31, .ref a32, .ref a33, .ref a34, .ref a35, .ref a36, .ref a37, .ref a38, .ref a39, .ref a40, .ref a41, .ref a42, .ref a43, .ref a44, .ref a45, .ref a46, .ref a47, .ref a48, .ref a49, .ref a50, .int 0, .int 0, .ref a51, .ref a52, .int 0, .int 0, .int 0, .int 0, .ref a53, .int 0, .ref a54, .ref a55, .ref a56, .int 0, .int 0, .int 0, .int 0, .int 0, .int 0, .int 0, .int 0, .ref a57, .int 0, .ref a58, .ref a59, .ref a60, .ref a61, .int 0, .int 0])), (a31, .inl (cI, 2, .inl (fun _ => 0)))] H := hP
      have hD : va_D A [(a19, .inr (10, [.ref a20, .ref a21, .int 0, .int 0, .int 0, .int (-1), .int 0, .int 0, .int 0, .int 0, .long 0, .ref a22, .ref a23, .ref a24, .ref a25, .ref a26, .ref a27, .ref a28, .ref a29, .ref a30, .ref a31, .ref a32, .ref a33, .ref a34, .ref a35, .ref a36, .ref a37, .ref a38, .ref a39, .ref a40, .ref a41, .ref a42, .ref a43, .ref a44, .ref a45, .ref a46, .ref a47, .ref a48, .ref a49, .ref a50, .int 0, .int 0, .ref a51, .ref a52, .int 0, .int 0, .int 0, .int 0, .ref a53, .int 0, .ref a54, .ref a55, .ref a56, .int 0, .int 0, .int 0, .int 0, .int 0, .int 0, .int 0, .int 0, .ref a57, .int 0, .ref a58, .ref a59, .ref a60, .ref a61, .int 0, .int 0])), (a31, .inl (cI, 2, .inl (fun _ => 0)))] := hD
      subst hp
      refine lv_aload_n hx hb dL_law_1115 rfl (lv_at hl 1 rfl) ?_
      refine lv_aload_n hx hb dL_law_1116 rfl (lv_at hl 3 rfl) ?_
      refine lv_iload_n hx hb dL_law_1117 rfl (lv_at hl 0 rfl) ?_
      refine lv_iconst (v := 1) hx hb dL_law_1118 (by decide) ?_
      refine lv_iadd hx hb dL_law_1119 ?_
      refine k_i 1 (by decide +kernel) ?_
      refine va_sld hx hb hX hbl hbA hS (i := 1) (k_in (k := 1) (by decide +kernel) (by decide)) dL_law_1120 ?_
      refine k_i (xs 1) (congrArg xs (by decide +kernel)) ?_
      refine lv_aload_n hx hb dL_law_1121 rfl (lv_at hl 3 rfl) ?_
      refine lv_iload_n hx hb dL_law_1122 rfl (lv_at hl 0 rfl) ?_
      refine lv_iconst (v := 2) hx hb dL_law_1123 (by decide) ?_
      refine lv_iadd hx hb dL_law_1124 ?_
      refine k_i 2 (by decide +kernel) ?_
      refine va_sld hx hb hX hbl hbA hS (i := 2) (k_in (k := 2) (by decide +kernel) (by decide)) dL_law_1125 ?_
      refine k_i (xs 2) (congrArg xs (by decide +kernel)) ?_
      refine lv_if_eq (tgt := 1133) hx hb dL_law_1126 (by decide) (fun c_8 => ?_) (fun c_8 => by have d_8 : (xs 2).toInt ≠ 0 := fa_ne c_8; omega)
      have d_8 : (xs 2).toInt = 0 := (fa_eq _ _).mp c_8
      refine lv_iconst (v := 0) hx hb dL_law_1133 (by decide) ?_
      refine lv_aload_n hx hb dL_law_1134 rfl (lv_at hl 3 rfl) ?_
      refine lv_iload_n hx hb dL_law_1135 rfl (lv_at hl 0 rfl) ?_
      refine lv_iconst (v := 3) hx hb dL_law_1136 (by decide) ?_
      refine lv_iadd hx hb dL_law_1137 ?_
      refine k_i 3 (by decide +kernel) ?_
      refine va_sld hx hb hX hbl hbA hS (i := 3) (k_in (k := 3) (by decide +kernel) (by decide)) dL_law_1138 ?_
      refine k_i (xs 3) (congrArg xs (by decide +kernel)) ?_
      refine lv_aload_n hx hb dL_law_1139 rfl (lv_at hl 3 rfl) ?_
      refine lv_iload_n hx hb dL_law_1140 rfl (lv_at hl 0 rfl) ?_
      refine lv_iconst (v := 4) hx hb dL_law_1141 (by decide) ?_
      refine lv_iadd hx hb dL_law_1142 ?_
      refine k_i 4 (by decide +kernel) ?_
      refine va_sld hx hb hX hbl hbA hS (i := 4) (k_in (k := 4) (by decide +kernel) (by decide)) dL_law_1143 ?_
      refine k_i (xs 4) (congrArg xs (by decide +kernel)) ?_
      refine lv_if_eq (tgt := 1151) hx hb dL_law_1144 (by decide) (fun c_9 => by have d_9 : (xs 4).toInt = 0 := (fa_eq _ _).mp c_9; omega) (fun c_9 => ?_)
      have d_9 : (xs 4).toInt ≠ 0 := fa_ne c_9
      refine lv_iconst (v := 1) hx hb dL_law_1147 (by decide) ?_
      refine lv_goto (tgt := 1152) hx hb dL_law_1148 (by decide) ?_
      refine lv_aload_n hx hb dL_law_1152 rfl (lv_at hl 3 rfl) ?_
      refine lv_iload_n hx hb dL_law_1153 rfl (lv_at hl 0 rfl) ?_
      refine lv_iconst (v := 5) hx hb dL_law_1154 (by decide) ?_
      refine lv_iadd hx hb dL_law_1155 ?_
      refine k_i 5 (by decide +kernel) ?_
      refine va_sld hx hb hX hbl hbA hS (i := 5) (k_in (k := 5) (by decide +kernel) (by decide)) dL_law_1156 ?_
      refine k_i (xs 5) (congrArg xs (by decide +kernel)) ?_
      refine k_ci (wr := []) (k_rV hC hN hK hP hD (c220_X10_goods l G cI cJ cB cZ a19 a20 a21 a22 a23 a24 a25 a26 a27 a28 a29 a30 a31 a32 a33 a34 a35 a36 a37 a38 a39 a40 a41 a42 a43 a44 a45 a46 a47 a48 a49 a50 a51 a52 a53 a54 a55 a56 a57 a58 a59 a60 a61 (xs 1) 0 (xs 3) 1 (xs 5)) [0, 1] rfl (by decide) mi_X10_goods in_X10_goods se_X10_goods wm_L_122 10 0 rfl rfl rfl hl.1 rfl rfl (Nat.le_of_ble_eq_true rfl) ⟨(Nat.le_of_ble_eq_true rfl), (Nat.le_of_ble_eq_true rfl)⟩ dL_law_1157 ⟨(Nat.le_of_ble_eq_true rfl), (Nat.le_of_ble_eq_true rfl)⟩) hP hD hS hA [0, 1] [] rfl rfl (by decide) (by decide) (fun r10 u10 H locs hp hP hD hS => ?_)
      have hP : va_P G cl [] H := hP
      have hD : va_D A [] := hD
      subst hp
      refine lv_icmp_eq (tgt := 1428) hx hb dL_law_1160 (by decide) (fun _ => ?_) (fun c_ => absurd (by decide +kernel) c_)
      exact law_tail hC hr hlk hX hbl hbA hfo hS hl (Nat.le_of_ble_eq_true rfl) (Nat.le_of_ble_eq_true rfl)
  · have d_1 : (xs 2).toInt ≠ 0 := fa_ne c_1
    refine lv_iconst (v := 1) hx hb dL_law_1084 (by decide) ?_
    refine lv_goto (tgt := 1089) hx hb dL_law_1085 (by decide) ?_
    refine lv_aload_n hx hb dL_law_1089 rfl (lv_at hl 3 rfl) ?_
    refine lv_iload_n hx hb dL_law_1090 rfl (lv_at hl 0 rfl) ?_
    refine lv_iconst (v := 3) hx hb dL_law_1091 (by decide) ?_
    refine lv_iadd hx hb dL_law_1092 ?_
    refine k_i 3 (by decide +kernel) ?_
    refine va_sld hx hb hX hbl hbA hS (i := 3) (k_in (k := 3) (by decide +kernel) (by decide)) dL_law_1093 ?_
    refine k_i (xs 3) (congrArg xs (by decide +kernel)) ?_
    refine lv_aload_n hx hb dL_law_1094 rfl (lv_at hl 3 rfl) ?_
    refine lv_iload_n hx hb dL_law_1095 rfl (lv_at hl 0 rfl) ?_
    refine lv_iconst (v := 4) hx hb dL_law_1096 (by decide) ?_
    refine lv_iadd hx hb dL_law_1097 ?_
    refine k_i 4 (by decide +kernel) ?_
    refine va_sld hx hb hX hbl hbA hS (i := 4) (k_in (k := 4) (by decide +kernel) (by decide)) dL_law_1098 ?_
    refine k_i (xs 4) (congrArg xs (by decide +kernel)) ?_
    refine lv_if_eq (tgt := 1106) hx hb dL_law_1099 (by decide) (fun c_11 => ?_) (fun c_11 => ?_)
    · have d_11 : (xs 4).toInt = 0 := (fa_eq _ _).mp c_11
      refine lv_iconst (v := 0) hx hb dL_law_1106 (by decide) ?_
      refine lv_aload_n hx hb dL_law_1107 rfl (lv_at hl 3 rfl) ?_
      refine lv_iload_n hx hb dL_law_1108 rfl (lv_at hl 0 rfl) ?_
      refine lv_iconst (v := 5) hx hb dL_law_1109 (by decide) ?_
      refine lv_iadd hx hb dL_law_1110 ?_
      refine k_i 5 (by decide +kernel) ?_
      refine va_sld hx hb hX hbl hbA hS (i := 5) (k_in (k := 5) (by decide +kernel) (by decide)) dL_law_1111 ?_
      refine k_i (xs 5) (congrArg xs (by decide +kernel)) ?_
      refine k_ci (wr := [(a19, .inr (10, [.ref a20, .ref a21, .int 0, .int 0, .int 0, .int (-1), .int 0, .int 0, .int 0, .int 0, .long 0, .ref a22, .ref a23, .ref a24, .ref a25, .ref a26, .ref a27, .ref a28, .ref a29, .ref a30, .ref a31, .ref a32, .ref a33, .ref a34, .ref a35, .ref a36, .ref a37, .ref a38, .ref a39, .ref a40, .ref a41, .ref a42, .ref a43, .ref a44, .ref a45, .ref a46, .ref a47, .ref a48, .ref a49, .ref a50, .int 0, .int 0, .ref a51, .ref a52, .int 0, .int 0, .int 0, .int 0, .ref a53, .int 0, .ref a54, .ref a55, .ref a56, .int 0, .int 0, .int 0, .int 0, .int 0, .int 0, .int 0, .int 0, .ref a57, .int 0, .ref a58, .ref a59, .ref a60, .ref a61, .int 0, .int 0])), (a31, .inl (cI, 2, .inl (fun _ => 0)))]) (k_rV hC hN hK hP hD (c116_X9_goods l G cI cJ cB cZ a0 a1 a2 a3 a4 a5 a6 a7 a8 a9 a10 a11 a12 a13 a14 a15 a16 a17 a18 (xs 1) 1 (xs 3) 0 (xs 5)) [0, 1] rfl (by decide) mi_X9_goods in_X9_goods se_X9_goods wm_L_118 9 0 rfl rfl rfl hl.1 rfl rfl (Nat.le_of_ble_eq_true rfl) ⟨(Nat.le_of_ble_eq_true rfl), (Nat.le_of_ble_eq_true rfl)⟩ dL_law_1112 ⟨(Nat.le_of_ble_eq_true rfl), (Nat.le_of_ble_eq_true rfl)⟩) hP hD hS hA [0, 1] [2, 3] rfl rfl (by decide) (by decide) (fun r12 u12 H locs hp hP hD hS => ?_)
      have hP : va_P G cl [(a19, .inr (10, [.ref a20, .ref a21, .int 0, .int 0, .int 0, .int (-1), .int 0, .int 0, .int 0, .int 0, .long 0, .ref a22, .ref a23, .ref a24, .ref a25, .ref a26, .ref a27, .ref a28, .ref a29, .ref a30, .ref a31, .ref a32, .ref a33, .ref a34, .ref a35, .ref a36, .ref a37, .ref a38, .ref a39, .ref a40, .ref a41, .ref a42, .ref a43, .ref a44, .ref a45, .ref a46, .ref a47, .ref a48, .ref a49, .ref a50, .int 0, .int 0, .ref a51, .ref a52, .int 0, .int 0, .int 0, .int 0, .ref a53, .int 0, .ref a54, .ref a55, .ref a56, .int 0, .int 0, .int 0, .int 0, .int 0, .int 0, .int 0, .int 0, .ref a57, .int 0, .ref a58, .ref a59, .ref a60, .ref a61, .int 0, .int 0])), (a31, .inl (cI, 2, .inl (fun _ => 0)))] H := hP
      have hD : va_D A [(a19, .inr (10, [.ref a20, .ref a21, .int 0, .int 0, .int 0, .int (-1), .int 0, .int 0, .int 0, .int 0, .long 0, .ref a22, .ref a23, .ref a24, .ref a25, .ref a26, .ref a27, .ref a28, .ref a29, .ref a30, .ref a31, .ref a32, .ref a33, .ref a34, .ref a35, .ref a36, .ref a37, .ref a38, .ref a39, .ref a40, .ref a41, .ref a42, .ref a43, .ref a44, .ref a45, .ref a46, .ref a47, .ref a48, .ref a49, .ref a50, .int 0, .int 0, .ref a51, .ref a52, .int 0, .int 0, .int 0, .int 0, .ref a53, .int 0, .ref a54, .ref a55, .ref a56, .int 0, .int 0, .int 0, .int 0, .int 0, .int 0, .int 0, .int 0, .ref a57, .int 0, .ref a58, .ref a59, .ref a60, .ref a61, .int 0, .int 0])), (a31, .inl (cI, 2, .inl (fun _ => 0)))] := hD
      subst hp
      refine lv_aload_n hx hb dL_law_1115 rfl (lv_at hl 1 rfl) ?_
      refine lv_aload_n hx hb dL_law_1116 rfl (lv_at hl 3 rfl) ?_
      refine lv_iload_n hx hb dL_law_1117 rfl (lv_at hl 0 rfl) ?_
      refine lv_iconst (v := 1) hx hb dL_law_1118 (by decide) ?_
      refine lv_iadd hx hb dL_law_1119 ?_
      refine k_i 1 (by decide +kernel) ?_
      refine va_sld hx hb hX hbl hbA hS (i := 1) (k_in (k := 1) (by decide +kernel) (by decide)) dL_law_1120 ?_
      refine k_i (xs 1) (congrArg xs (by decide +kernel)) ?_
      refine lv_aload_n hx hb dL_law_1121 rfl (lv_at hl 3 rfl) ?_
      refine lv_iload_n hx hb dL_law_1122 rfl (lv_at hl 0 rfl) ?_
      refine lv_iconst (v := 2) hx hb dL_law_1123 (by decide) ?_
      refine lv_iadd hx hb dL_law_1124 ?_
      refine k_i 2 (by decide +kernel) ?_
      refine va_sld hx hb hX hbl hbA hS (i := 2) (k_in (k := 2) (by decide +kernel) (by decide)) dL_law_1125 ?_
      refine k_i (xs 2) (congrArg xs (by decide +kernel)) ?_
      refine lv_if_eq (tgt := 1133) hx hb dL_law_1126 (by decide) (fun c_13 => by have d_13 : (xs 2).toInt = 0 := (fa_eq _ _).mp c_13; omega) (fun c_13 => ?_)
      have d_13 : (xs 2).toInt ≠ 0 := fa_ne c_13
      refine lv_iconst (v := 1) hx hb dL_law_1129 (by decide) ?_
      refine lv_goto (tgt := 1134) hx hb dL_law_1130 (by decide) ?_
      refine lv_aload_n hx hb dL_law_1134 rfl (lv_at hl 3 rfl) ?_
      refine lv_iload_n hx hb dL_law_1135 rfl (lv_at hl 0 rfl) ?_
      refine lv_iconst (v := 3) hx hb dL_law_1136 (by decide) ?_
      refine lv_iadd hx hb dL_law_1137 ?_
      refine k_i 3 (by decide +kernel) ?_
      refine va_sld hx hb hX hbl hbA hS (i := 3) (k_in (k := 3) (by decide +kernel) (by decide)) dL_law_1138 ?_
      refine k_i (xs 3) (congrArg xs (by decide +kernel)) ?_
      refine lv_aload_n hx hb dL_law_1139 rfl (lv_at hl 3 rfl) ?_
      refine lv_iload_n hx hb dL_law_1140 rfl (lv_at hl 0 rfl) ?_
      refine lv_iconst (v := 4) hx hb dL_law_1141 (by decide) ?_
      refine lv_iadd hx hb dL_law_1142 ?_
      refine k_i 4 (by decide +kernel) ?_
      refine va_sld hx hb hX hbl hbA hS (i := 4) (k_in (k := 4) (by decide +kernel) (by decide)) dL_law_1143 ?_
      refine k_i (xs 4) (congrArg xs (by decide +kernel)) ?_
      refine lv_if_eq (tgt := 1151) hx hb dL_law_1144 (by decide) (fun c_14 => ?_) (fun c_14 => by have d_14 : (xs 4).toInt ≠ 0 := fa_ne c_14; omega)
      have d_14 : (xs 4).toInt = 0 := (fa_eq _ _).mp c_14
      refine lv_iconst (v := 0) hx hb dL_law_1151 (by decide) ?_
      refine lv_aload_n hx hb dL_law_1152 rfl (lv_at hl 3 rfl) ?_
      refine lv_iload_n hx hb dL_law_1153 rfl (lv_at hl 0 rfl) ?_
      refine lv_iconst (v := 5) hx hb dL_law_1154 (by decide) ?_
      refine lv_iadd hx hb dL_law_1155 ?_
      refine k_i 5 (by decide +kernel) ?_
      refine va_sld hx hb hX hbl hbA hS (i := 5) (k_in (k := 5) (by decide +kernel) (by decide)) dL_law_1156 ?_
      refine k_i (xs 5) (congrArg xs (by decide +kernel)) ?_
      refine k_ci (wr := []) (k_rV hC hN hK hP hD (c220_X10_goods l G cI cJ cB cZ a19 a20 a21 a22 a23 a24 a25 a26 a27 a28 a29 a30 a31 a32 a33 a34 a35 a36 a37 a38 a39 a40 a41 a42 a43 a44 a45 a46 a47 a48 a49 a50 a51 a52 a53 a54 a55 a56 a57 a58 a59 a60 a61 (xs 1) 1 (xs 3) 0 (xs 5)) [0, 1] rfl (by decide) mi_X10_goods in_X10_goods se_X10_goods wm_L_122 10 0 rfl rfl rfl hl.1 rfl rfl (Nat.le_of_ble_eq_true rfl) ⟨(Nat.le_of_ble_eq_true rfl), (Nat.le_of_ble_eq_true rfl)⟩ dL_law_1157 ⟨(Nat.le_of_ble_eq_true rfl), (Nat.le_of_ble_eq_true rfl)⟩) hP hD hS hA [0, 1] [] rfl rfl (by decide) (by decide) (fun r15 u15 H locs hp hP hD hS => ?_)
      have hP : va_P G cl [] H := hP
      have hD : va_D A [] := hD
      subst hp
      refine lv_icmp_eq (tgt := 1428) hx hb dL_law_1160 (by decide) (fun _ => ?_) (fun c_ => absurd (by decide +kernel) c_)
      exact law_tail hC hr hlk hX hbl hbA hfo hS hl (Nat.le_of_ble_eq_true rfl) (Nat.le_of_ble_eq_true rfl)
    · have d_11 : (xs 4).toInt ≠ 0 := fa_ne c_11
      refine lv_iconst (v := 1) hx hb dL_law_1102 (by decide) ?_
      refine lv_goto (tgt := 1107) hx hb dL_law_1103 (by decide) ?_
      refine lv_aload_n hx hb dL_law_1107 rfl (lv_at hl 3 rfl) ?_
      refine lv_iload_n hx hb dL_law_1108 rfl (lv_at hl 0 rfl) ?_
      refine lv_iconst (v := 5) hx hb dL_law_1109 (by decide) ?_
      refine lv_iadd hx hb dL_law_1110 ?_
      refine k_i 5 (by decide +kernel) ?_
      refine va_sld hx hb hX hbl hbA hS (i := 5) (k_in (k := 5) (by decide +kernel) (by decide)) dL_law_1111 ?_
      refine k_i (xs 5) (congrArg xs (by decide +kernel)) ?_
      refine k_ci (wr := [(a19, .inr (10, [.ref a20, .ref a21, .int 0, .int 0, .int 0, .int (-1), .int 0, .int 0, .int 0, .int 0, .long 0, .ref a22, .ref a23, .ref a24, .ref a25, .ref a26, .ref a27, .ref a28, .ref a29, .ref a30, .ref a31, .ref a32, .ref a33, .ref a34, .ref a35, .ref a36, .ref a37, .ref a38, .ref a39, .ref a40, .ref a41, .ref a42, .ref a43, .ref a44, .ref a45, .ref a46, .ref a47, .ref a48, .ref a49, .ref a50, .int 0, .int 0, .ref a51, .ref a52, .int 0, .int 0, .int 0, .int 0, .ref a53, .int 0, .ref a54, .ref a55, .ref a56, .int 0, .int 0, .int 0, .int 0, .int 0, .int 0, .int 0, .int 0, .ref a57, .int 0, .ref a58, .ref a59, .ref a60, .ref a61, .int 0, .int 0])), (a31, .inl (cI, 2, .inl (fun _ => 0)))]) (k_rV hC hN hK hP hD (c116_X9_goods l G cI cJ cB cZ a0 a1 a2 a3 a4 a5 a6 a7 a8 a9 a10 a11 a12 a13 a14 a15 a16 a17 a18 (xs 1) 1 (xs 3) 1 (xs 5)) [0, 1] rfl (by decide) mi_X9_goods in_X9_goods se_X9_goods wm_L_118 9 0 rfl rfl rfl hl.1 rfl rfl (Nat.le_of_ble_eq_true rfl) ⟨(Nat.le_of_ble_eq_true rfl), (Nat.le_of_ble_eq_true rfl)⟩ dL_law_1112 ⟨(Nat.le_of_ble_eq_true rfl), (Nat.le_of_ble_eq_true rfl)⟩) hP hD hS hA [0, 1] [2, 3] rfl rfl (by decide) (by decide) (fun r16 u16 H locs hp hP hD hS => ?_)
      have hP : va_P G cl [(a19, .inr (10, [.ref a20, .ref a21, .int 0, .int 0, .int 0, .int (-1), .int 0, .int 0, .int 0, .int 0, .long 0, .ref a22, .ref a23, .ref a24, .ref a25, .ref a26, .ref a27, .ref a28, .ref a29, .ref a30, .ref a31, .ref a32, .ref a33, .ref a34, .ref a35, .ref a36, .ref a37, .ref a38, .ref a39, .ref a40, .ref a41, .ref a42, .ref a43, .ref a44, .ref a45, .ref a46, .ref a47, .ref a48, .ref a49, .ref a50, .int 0, .int 0, .ref a51, .ref a52, .int 0, .int 0, .int 0, .int 0, .ref a53, .int 0, .ref a54, .ref a55, .ref a56, .int 0, .int 0, .int 0, .int 0, .int 0, .int 0, .int 0, .int 0, .ref a57, .int 0, .ref a58, .ref a59, .ref a60, .ref a61, .int 0, .int 0])), (a31, .inl (cI, 2, .inl (fun _ => 0)))] H := hP
      have hD : va_D A [(a19, .inr (10, [.ref a20, .ref a21, .int 0, .int 0, .int 0, .int (-1), .int 0, .int 0, .int 0, .int 0, .long 0, .ref a22, .ref a23, .ref a24, .ref a25, .ref a26, .ref a27, .ref a28, .ref a29, .ref a30, .ref a31, .ref a32, .ref a33, .ref a34, .ref a35, .ref a36, .ref a37, .ref a38, .ref a39, .ref a40, .ref a41, .ref a42, .ref a43, .ref a44, .ref a45, .ref a46, .ref a47, .ref a48, .ref a49, .ref a50, .int 0, .int 0, .ref a51, .ref a52, .int 0, .int 0, .int 0, .int 0, .ref a53, .int 0, .ref a54, .ref a55, .ref a56, .int 0, .int 0, .int 0, .int 0, .int 0, .int 0, .int 0, .int 0, .ref a57, .int 0, .ref a58, .ref a59, .ref a60, .ref a61, .int 0, .int 0])), (a31, .inl (cI, 2, .inl (fun _ => 0)))] := hD
      subst hp
      refine lv_aload_n hx hb dL_law_1115 rfl (lv_at hl 1 rfl) ?_
      refine lv_aload_n hx hb dL_law_1116 rfl (lv_at hl 3 rfl) ?_
      refine lv_iload_n hx hb dL_law_1117 rfl (lv_at hl 0 rfl) ?_
      refine lv_iconst (v := 1) hx hb dL_law_1118 (by decide) ?_
      refine lv_iadd hx hb dL_law_1119 ?_
      refine k_i 1 (by decide +kernel) ?_
      refine va_sld hx hb hX hbl hbA hS (i := 1) (k_in (k := 1) (by decide +kernel) (by decide)) dL_law_1120 ?_
      refine k_i (xs 1) (congrArg xs (by decide +kernel)) ?_
      refine lv_aload_n hx hb dL_law_1121 rfl (lv_at hl 3 rfl) ?_
      refine lv_iload_n hx hb dL_law_1122 rfl (lv_at hl 0 rfl) ?_
      refine lv_iconst (v := 2) hx hb dL_law_1123 (by decide) ?_
      refine lv_iadd hx hb dL_law_1124 ?_
      refine k_i 2 (by decide +kernel) ?_
      refine va_sld hx hb hX hbl hbA hS (i := 2) (k_in (k := 2) (by decide +kernel) (by decide)) dL_law_1125 ?_
      refine k_i (xs 2) (congrArg xs (by decide +kernel)) ?_
      refine lv_if_eq (tgt := 1133) hx hb dL_law_1126 (by decide) (fun c_17 => by have d_17 : (xs 2).toInt = 0 := (fa_eq _ _).mp c_17; omega) (fun c_17 => ?_)
      have d_17 : (xs 2).toInt ≠ 0 := fa_ne c_17
      refine lv_iconst (v := 1) hx hb dL_law_1129 (by decide) ?_
      refine lv_goto (tgt := 1134) hx hb dL_law_1130 (by decide) ?_
      refine lv_aload_n hx hb dL_law_1134 rfl (lv_at hl 3 rfl) ?_
      refine lv_iload_n hx hb dL_law_1135 rfl (lv_at hl 0 rfl) ?_
      refine lv_iconst (v := 3) hx hb dL_law_1136 (by decide) ?_
      refine lv_iadd hx hb dL_law_1137 ?_
      refine k_i 3 (by decide +kernel) ?_
      refine va_sld hx hb hX hbl hbA hS (i := 3) (k_in (k := 3) (by decide +kernel) (by decide)) dL_law_1138 ?_
      refine k_i (xs 3) (congrArg xs (by decide +kernel)) ?_
      refine lv_aload_n hx hb dL_law_1139 rfl (lv_at hl 3 rfl) ?_
      refine lv_iload_n hx hb dL_law_1140 rfl (lv_at hl 0 rfl) ?_
      refine lv_iconst (v := 4) hx hb dL_law_1141 (by decide) ?_
      refine lv_iadd hx hb dL_law_1142 ?_
      refine k_i 4 (by decide +kernel) ?_
      refine va_sld hx hb hX hbl hbA hS (i := 4) (k_in (k := 4) (by decide +kernel) (by decide)) dL_law_1143 ?_
      refine k_i (xs 4) (congrArg xs (by decide +kernel)) ?_
      refine lv_if_eq (tgt := 1151) hx hb dL_law_1144 (by decide) (fun c_18 => by have d_18 : (xs 4).toInt = 0 := (fa_eq _ _).mp c_18; omega) (fun c_18 => ?_)
      have d_18 : (xs 4).toInt ≠ 0 := fa_ne c_18
      refine lv_iconst (v := 1) hx hb dL_law_1147 (by decide) ?_
      refine lv_goto (tgt := 1152) hx hb dL_law_1148 (by decide) ?_
      refine lv_aload_n hx hb dL_law_1152 rfl (lv_at hl 3 rfl) ?_
      refine lv_iload_n hx hb dL_law_1153 rfl (lv_at hl 0 rfl) ?_
      refine lv_iconst (v := 5) hx hb dL_law_1154 (by decide) ?_
      refine lv_iadd hx hb dL_law_1155 ?_
      refine k_i 5 (by decide +kernel) ?_
      refine va_sld hx hb hX hbl hbA hS (i := 5) (k_in (k := 5) (by decide +kernel) (by decide)) dL_law_1156 ?_
      refine k_i (xs 5) (congrArg xs (by decide +kernel)) ?_
      refine k_ci (wr := []) (k_rV hC hN hK hP hD (c220_X10_goods l G cI cJ cB cZ a19 a20 a21 a22 a23 a24 a25 a26 a27 a28 a29 a30 a31 a32 a33 a34 a35 a36 a37 a38 a39 a40 a41 a42 a43 a44 a45 a46 a47 a48 a49 a50 a51 a52 a53 a54 a55 a56 a57 a58 a59 a60 a61 (xs 1) 1 (xs 3) 1 (xs 5)) [0, 1] rfl (by decide) mi_X10_goods in_X10_goods se_X10_goods wm_L_122 10 0 rfl rfl rfl hl.1 rfl rfl (Nat.le_of_ble_eq_true rfl) ⟨(Nat.le_of_ble_eq_true rfl), (Nat.le_of_ble_eq_true rfl)⟩ dL_law_1157 ⟨(Nat.le_of_ble_eq_true rfl), (Nat.le_of_ble_eq_true rfl)⟩) hP hD hS hA [0, 1] [] rfl rfl (by decide) (by decide) (fun r19 u19 H locs hp hP hD hS => ?_)
      have hP : va_P G cl [] H := hP
      have hD : va_D A [] := hD
      subst hp
      refine lv_icmp_eq (tgt := 1428) hx hb dL_law_1160 (by decide) (fun _ => ?_) (fun c_ => absurd (by decide +kernel) c_)
      exact law_tail hC hr hlk hX hbl hbA hfo hS hl (Nat.le_of_ble_eq_true rfl) (Nat.le_of_ble_eq_true rfl)
set_option maxRecDepth 100000 in
theorem wm_L_123 : Cond.methodLink RL 123 yX9_twice ∈ gw := gm (List.mem_of_getElem? (i := 1217) (by decide +kernel)) rfl
set_option maxRecDepth 100000 in
theorem mi_X9_twice : MI yX9_twice cX9_twice 8 (some .int) 5 := ⟨gm (List.mem_of_getElem? (i := 1220) rfl) rfl, gm (List.mem_of_getElem? (i := 112) (by decide +kernel)) rfl, by decide, by decide, by decide +kernel⟩
set_option maxRecDepth 100000 in
theorem in_X9_twice : Cond.instanceMethod yX9_twice ∈ gw := gm (List.mem_of_getElem? (i := 1218) (by decide +kernel)) rfl
set_option maxRecDepth 100000 in
theorem se_X9_twice : Cond.selects yX9_twice.cls yX9_twice yX9_twice ∈ gw := gm (List.mem_of_getElem? (i := 1219) (by decide +kernel)) rfl
set_option maxRecDepth 100000 in
theorem wm_L_127 : Cond.methodLink RL 127 yX10_twice ∈ gw := gm (List.mem_of_getElem? (i := 1833) (by decide +kernel)) rfl
set_option maxRecDepth 100000 in
theorem mi_X10_twice : MI yX10_twice cX10_twice 9 (some .int) 5 := ⟨gm (List.mem_of_getElem? (i := 1836) rfl) rfl, gm (List.mem_of_getElem? (i := 124) (by decide +kernel)) rfl, by decide, by decide, by decide +kernel⟩
set_option maxRecDepth 100000 in
theorem in_X10_twice : Cond.instanceMethod yX10_twice ∈ gw := gm (List.mem_of_getElem? (i := 1834) (by decide +kernel)) rfl
set_option maxRecDepth 100000 in
theorem se_X10_twice : Cond.selects yX10_twice.cls yX10_twice yX10_twice ∈ gw := gm (List.mem_of_getElem? (i := 1835) (by decide +kernel)) rfl
set_option maxHeartbeats 4000000 in
set_option maxRecDepth 100000 in
theorem law_twice {p : Program} {l : Launch} {e : Env} {s : State} {m : MethodId} {below : List Frame} {meth : Method} {c : Code} {b : Nat} {xs : Nat → Int32} {A : Nat → Prop} {H : Heap} {locs : List Loc} {ls : Array Slot} {G : va_G} {cI cJ cB cZ : ClassId} (a0 a1 a2 a3 a4 a5 a6 a7 a8 a9 a10 a11 a12 a13 a14 a15 a16 a17 a18 a19 a20 a21 a22 a23 a24 a25 a26 a27 a28 a29 a30 a31 a32 a33 a34 a35 a36 a37 a38 a39 a40 a41 a42 a43 a44 a45 a46 a47 a48 a49 a50 a51 a52 a53 a54 a55 a56 a57 a58 a59 a60 a61 : Nat) (hC : CallFix p m c code 4 s #[Value.ref b] gw R_law) (hr : meth.sig.returnType = ret) (hlk : meth.locks = false) (hN : NW s) (hK : va_K G cl (TY cI cJ cB cZ) s) (hX : va_X b 6 xs s s.heap) (hbl : b < s.heap.size) (hA : ∀ q, s.heap.size ≤ q → A q) (hbA : ¬ A b) (hfo : ∀ q, A q → s.heap.size ≤ q) (hP : va_P G cl [(a0, .inr (9, [.ref a1, .ref a2, .ref a3, .int 0, .int 0, .ref a4, .ref a5, .ref a6, .ref a7])), (a1, .inr (7, [.int 100, .int 100, .int 0, .ref a8, .ref a9, .int 0, .ref a10, .ref a11, .ref a12, .ref a13, .ref a14, .ref a15, .ref a16, .ref a17, .ref a18])), (a19, .inr (10, [.ref a20, .ref a21, .int 0, .int 0, .int 0, .int (-1), .int 0, .int 0, .int 0, .int 0, .long 0, .ref a22, .ref a23, .ref a24, .ref a25, .ref a26, .ref a27, .ref a28, .ref a29, .ref a30, .ref a31, .ref a32, .ref a33, .ref a34, .ref a35, .ref a36, .ref a37, .ref a38, .ref a39, .ref a40, .ref a41, .ref a42, .ref a43, .ref a44, .ref a45, .ref a46, .ref a47, .ref a48, .ref a49, .ref a50, .int 0, .int 0, .ref a51, .ref a52, .int 0, .int 0, .int 0, .int 0, .ref a53, .int 0, .ref a54, .ref a55, .ref a56, .int 0, .int 0, .int 0, .int 0, .int 0, .int 0, .int 0, .int 0, .ref a57, .int 0, .ref a58, .ref a59, .ref a60, .ref a61, .int 0, .int 0])), (a31, .inl (cI, 2, .inl (fun _ => 0)))] H) (hD : va_D A [(a0, .inr (9, [.ref a1, .ref a2, .ref a3, .int 0, .int 0, .ref a4, .ref a5, .ref a6, .ref a7])), (a1, .inr (7, [.int 100, .int 100, .int 0, .ref a8, .ref a9, .int 0, .ref a10, .ref a11, .ref a12, .ref a13, .ref a14, .ref a15, .ref a16, .ref a17, .ref a18])), (a19, .inr (10, [.ref a20, .ref a21, .int 0, .int 0, .int 0, .int (-1), .int 0, .int 0, .int 0, .int 0, .long 0, .ref a22, .ref a23, .ref a24, .ref a25, .ref a26, .ref a27, .ref a28, .ref a29, .ref a30, .ref a31, .ref a32, .ref a33, .ref a34, .ref a35, .ref a36, .ref a37, .ref a38, .ref a39, .ref a40, .ref a41, .ref a42, .ref a43, .ref a44, .ref a45, .ref a46, .ref a47, .ref a48, .ref a49, .ref a50, .int 0, .int 0, .ref a51, .ref a52, .int 0, .int 0, .int 0, .int 0, .ref a53, .int 0, .ref a54, .ref a55, .ref a56, .int 0, .int 0, .int 0, .int 0, .int 0, .int 0, .int 0, .int 0, .ref a57, .int 0, .ref a58, .ref a59, .ref a60, .ref a61, .int 0, .int 0])), (a31, .inl (cI, 2, .inl (fun _ => 0)))]) (hS : va_S A s.heap H locs) (hl : lv_has ls 4 [(3, .int 0), (2, .ref a19), (1, .ref a0), (0, .ref b)]) : W p l e room_1 s m #[Value.ref b] below meth c H locs 1000 1000000 (lw_Z below #[Value.ref b] s) (F0 m 1165 ls []) := by
  obtain ⟨hx, hb, hml, hown, hts⟩ := id hC
  refine lv_aload_n hx hb dL_law_1165 rfl (lv_at hl 2 rfl) ?_
  refine lv_aload_n hx hb dL_law_1166 rfl (lv_at hl 3 rfl) ?_
  refine lv_iload_n hx hb dL_law_1167 rfl (lv_at hl 0 rfl) ?_
  refine lv_iconst (v := 1) hx hb dL_law_1168 (by decide) ?_
  refine lv_iadd hx hb dL_law_1169 ?_
  refine k_i 1 (by decide +kernel) ?_
  refine va_sld hx hb hX hbl hbA hS (i := 1) (k_in (k := 1) (by decide +kernel) (by decide)) dL_law_1170 ?_
  refine k_i (xs 1) (congrArg xs (by decide +kernel)) ?_
  refine lv_aload_n hx hb dL_law_1171 rfl (lv_at hl 3 rfl) ?_
  refine lv_iload_n hx hb dL_law_1172 rfl (lv_at hl 0 rfl) ?_
  refine lv_iconst (v := 2) hx hb dL_law_1173 (by decide) ?_
  refine lv_iadd hx hb dL_law_1174 ?_
  refine k_i 2 (by decide +kernel) ?_
  refine va_sld hx hb hX hbl hbA hS (i := 2) (k_in (k := 2) (by decide +kernel) (by decide)) dL_law_1175 ?_
  refine k_i (xs 2) (congrArg xs (by decide +kernel)) ?_
  refine lv_aload_n hx hb dL_law_1176 rfl (lv_at hl 3 rfl) ?_
  refine lv_iload_n hx hb dL_law_1177 rfl (lv_at hl 0 rfl) ?_
  refine lv_iconst (v := 3) hx hb dL_law_1178 (by decide) ?_
  refine lv_iadd hx hb dL_law_1179 ?_
  refine k_i 3 (by decide +kernel) ?_
  refine va_sld hx hb hX hbl hbA hS (i := 3) (k_in (k := 3) (by decide +kernel) (by decide)) dL_law_1180 ?_
  refine k_i (xs 3) (congrArg xs (by decide +kernel)) ?_
  refine lv_aload_n hx hb dL_law_1181 rfl (lv_at hl 3 rfl) ?_
  refine lv_iload_n hx hb dL_law_1182 rfl (lv_at hl 0 rfl) ?_
  refine lv_iconst (v := 4) hx hb dL_law_1183 (by decide) ?_
  refine lv_iadd hx hb dL_law_1184 ?_
  refine k_i 4 (by decide +kernel) ?_
  refine va_sld hx hb hX hbl hbA hS (i := 4) (k_in (k := 4) (by decide +kernel) (by decide)) dL_law_1185 ?_
  refine k_i (xs 4) (congrArg xs (by decide +kernel)) ?_
  refine lv_if_eq (tgt := 1193) hx hb dL_law_1186 (by decide) (fun c_1 => ?_) (fun c_1 => ?_)
  · have d_1 : (xs 4).toInt = 0 := (fa_eq _ _).mp c_1
    refine lv_iconst (v := 0) hx hb dL_law_1193 (by decide) ?_
    refine lv_aload_n hx hb dL_law_1194 rfl (lv_at hl 3 rfl) ?_
    refine lv_iload_n hx hb dL_law_1195 rfl (lv_at hl 0 rfl) ?_
    refine lv_iconst (v := 5) hx hb dL_law_1196 (by decide) ?_
    refine lv_iadd hx hb dL_law_1197 ?_
    refine k_i 5 (by decide +kernel) ?_
    refine va_sld hx hb hX hbl hbA hS (i := 5) (k_in (k := 5) (by decide +kernel) (by decide)) dL_law_1198 ?_
    refine k_i (xs 5) (congrArg xs (by decide +kernel)) ?_
    refine k_ci (wr := [(a19, .inr (10, [.ref a20, .ref a21, .int 0, .int 0, .int 0, .int (-1), .int 0, .int 0, .int 0, .int 0, .long 0, .ref a22, .ref a23, .ref a24, .ref a25, .ref a26, .ref a27, .ref a28, .ref a29, .ref a30, .ref a31, .ref a32, .ref a33, .ref a34, .ref a35, .ref a36, .ref a37, .ref a38, .ref a39, .ref a40, .ref a41, .ref a42, .ref a43, .ref a44, .ref a45, .ref a46, .ref a47, .ref a48, .ref a49, .ref a50, .int 0, .int 0, .ref a51, .ref a52, .int 0, .int 0, .int 0, .int 0, .ref a53, .int 0, .ref a54, .ref a55, .ref a56, .int 0, .int 0, .int 0, .int 0, .int 0, .int 0, .int 0, .int 0, .ref a57, .int 0, .ref a58, .ref a59, .ref a60, .ref a61, .int 0, .int 0])), (a31, .inl (cI, 2, .inl (fun _ => 0)))]) (k_rV hC hN hK hP hD (c117_X9_twice l G cI cJ cB cZ a0 a1 a2 a3 a4 a5 a6 a7 a8 a9 a10 a11 a12 a13 a14 a15 a16 a17 a18 (xs 1) (xs 2) (xs 3) 0 (xs 5)) [0, 1] rfl (by decide) mi_X9_twice in_X9_twice se_X9_twice wm_L_123 9 0 rfl rfl rfl hl.1 rfl rfl (Nat.le_of_ble_eq_true rfl) ⟨(Nat.le_of_ble_eq_true rfl), (Nat.le_of_ble_eq_true rfl)⟩ dL_law_1199 ⟨(Nat.le_of_ble_eq_true rfl), (Nat.le_of_ble_eq_true rfl)⟩) hP hD hS hA [0, 1] [2, 3] rfl rfl (by decide) (by decide) (fun r2 u2 H locs hp hP hD hS => ?_)
    have hP : va_P G cl [(a19, .inr (10, [.ref a20, .ref a21, .int 0, .int 0, .int 0, .int (-1), .int 0, .int 0, .int 0, .int 0, .long 0, .ref a22, .ref a23, .ref a24, .ref a25, .ref a26, .ref a27, .ref a28, .ref a29, .ref a30, .ref a31, .ref a32, .ref a33, .ref a34, .ref a35, .ref a36, .ref a37, .ref a38, .ref a39, .ref a40, .ref a41, .ref a42, .ref a43, .ref a44, .ref a45, .ref a46, .ref a47, .ref a48, .ref a49, .ref a50, .int 0, .int 0, .ref a51, .ref a52, .int 0, .int 0, .int 0, .int 0, .ref a53, .int 0, .ref a54, .ref a55, .ref a56, .int 0, .int 0, .int 0, .int 0, .int 0, .int 0, .int 0, .int 0, .ref a57, .int 0, .ref a58, .ref a59, .ref a60, .ref a61, .int 0, .int 0])), (a31, .inl (cI, 2, .inl (fun _ => 0)))] H := hP
    have hD : va_D A [(a19, .inr (10, [.ref a20, .ref a21, .int 0, .int 0, .int 0, .int (-1), .int 0, .int 0, .int 0, .int 0, .long 0, .ref a22, .ref a23, .ref a24, .ref a25, .ref a26, .ref a27, .ref a28, .ref a29, .ref a30, .ref a31, .ref a32, .ref a33, .ref a34, .ref a35, .ref a36, .ref a37, .ref a38, .ref a39, .ref a40, .ref a41, .ref a42, .ref a43, .ref a44, .ref a45, .ref a46, .ref a47, .ref a48, .ref a49, .ref a50, .int 0, .int 0, .ref a51, .ref a52, .int 0, .int 0, .int 0, .int 0, .ref a53, .int 0, .ref a54, .ref a55, .ref a56, .int 0, .int 0, .int 0, .int 0, .int 0, .int 0, .int 0, .int 0, .ref a57, .int 0, .ref a58, .ref a59, .ref a60, .ref a61, .int 0, .int 0])), (a31, .inl (cI, 2, .inl (fun _ => 0)))] := hD
    subst hp
    refine lv_aload_n hx hb dL_law_1202 rfl (lv_at hl 1 rfl) ?_
    refine lv_aload_n hx hb dL_law_1203 rfl (lv_at hl 3 rfl) ?_
    refine lv_iload_n hx hb dL_law_1204 rfl (lv_at hl 0 rfl) ?_
    refine lv_iconst (v := 1) hx hb dL_law_1205 (by decide) ?_
    refine lv_iadd hx hb dL_law_1206 ?_
    refine k_i 1 (by decide +kernel) ?_
    refine va_sld hx hb hX hbl hbA hS (i := 1) (k_in (k := 1) (by decide +kernel) (by decide)) dL_law_1207 ?_
    refine k_i (xs 1) (congrArg xs (by decide +kernel)) ?_
    refine lv_aload_n hx hb dL_law_1208 rfl (lv_at hl 3 rfl) ?_
    refine lv_iload_n hx hb dL_law_1209 rfl (lv_at hl 0 rfl) ?_
    refine lv_iconst (v := 2) hx hb dL_law_1210 (by decide) ?_
    refine lv_iadd hx hb dL_law_1211 ?_
    refine k_i 2 (by decide +kernel) ?_
    refine va_sld hx hb hX hbl hbA hS (i := 2) (k_in (k := 2) (by decide +kernel) (by decide)) dL_law_1212 ?_
    refine k_i (xs 2) (congrArg xs (by decide +kernel)) ?_
    refine lv_aload_n hx hb dL_law_1213 rfl (lv_at hl 3 rfl) ?_
    refine lv_iload_n hx hb dL_law_1214 rfl (lv_at hl 0 rfl) ?_
    refine lv_iconst (v := 3) hx hb dL_law_1215 (by decide) ?_
    refine lv_iadd hx hb dL_law_1216 ?_
    refine k_i 3 (by decide +kernel) ?_
    refine va_sld hx hb hX hbl hbA hS (i := 3) (k_in (k := 3) (by decide +kernel) (by decide)) dL_law_1217 ?_
    refine k_i (xs 3) (congrArg xs (by decide +kernel)) ?_
    refine lv_aload_n hx hb dL_law_1218 rfl (lv_at hl 3 rfl) ?_
    refine lv_iload_n hx hb dL_law_1219 rfl (lv_at hl 0 rfl) ?_
    refine lv_iconst (v := 4) hx hb dL_law_1220 (by decide) ?_
    refine lv_iadd hx hb dL_law_1221 ?_
    refine k_i 4 (by decide +kernel) ?_
    refine va_sld hx hb hX hbl hbA hS (i := 4) (k_in (k := 4) (by decide +kernel) (by decide)) dL_law_1222 ?_
    refine k_i (xs 4) (congrArg xs (by decide +kernel)) ?_
    refine lv_if_eq (tgt := 1230) hx hb dL_law_1223 (by decide) (fun c_3 => ?_) (fun c_3 => by have d_3 : (xs 4).toInt ≠ 0 := fa_ne c_3; omega)
    have d_3 : (xs 4).toInt = 0 := (fa_eq _ _).mp c_3
    refine lv_iconst (v := 0) hx hb dL_law_1230 (by decide) ?_
    refine lv_aload_n hx hb dL_law_1231 rfl (lv_at hl 3 rfl) ?_
    refine lv_iload_n hx hb dL_law_1232 rfl (lv_at hl 0 rfl) ?_
    refine lv_iconst (v := 5) hx hb dL_law_1233 (by decide) ?_
    refine lv_iadd hx hb dL_law_1234 ?_
    refine k_i 5 (by decide +kernel) ?_
    refine va_sld hx hb hX hbl hbA hS (i := 5) (k_in (k := 5) (by decide +kernel) (by decide)) dL_law_1235 ?_
    refine k_i (xs 5) (congrArg xs (by decide +kernel)) ?_
    refine k_ci (wr := []) (k_rV hC hN hK hP hD (c221_X10_twice l G cI cJ cB cZ a19 a20 a21 a22 a23 a24 a25 a26 a27 a28 a29 a30 a31 a32 a33 a34 a35 a36 a37 a38 a39 a40 a41 a42 a43 a44 a45 a46 a47 a48 a49 a50 a51 a52 a53 a54 a55 a56 a57 a58 a59 a60 a61 (xs 1) (xs 2) (xs 3) 0 (xs 5)) [0, 1] rfl (by decide) mi_X10_twice in_X10_twice se_X10_twice wm_L_127 10 0 rfl rfl rfl hl.1 rfl rfl (Nat.le_of_ble_eq_true rfl) ⟨(Nat.le_of_ble_eq_true rfl), (Nat.le_of_ble_eq_true rfl)⟩ dL_law_1236 ⟨(Nat.le_of_ble_eq_true rfl), (Nat.le_of_ble_eq_true rfl)⟩) hP hD hS hA [0, 1] [] rfl rfl (by decide) (by decide) (fun r4 u4 H locs hp hP hD hS => ?_)
    have hP : va_P G cl [] H := hP
    have hD : va_D A [] := hD
    subst hp
    refine lv_icmp_eq (tgt := 1428) hx hb dL_law_1239 (by decide) (fun _ => ?_) (fun c_ => absurd (by decide +kernel) c_)
    exact law_tail hC hr hlk hX hbl hbA hfo hS hl (Nat.le_of_ble_eq_true rfl) (Nat.le_of_ble_eq_true rfl)
  · have d_1 : (xs 4).toInt ≠ 0 := fa_ne c_1
    refine lv_iconst (v := 1) hx hb dL_law_1189 (by decide) ?_
    refine lv_goto (tgt := 1194) hx hb dL_law_1190 (by decide) ?_
    refine lv_aload_n hx hb dL_law_1194 rfl (lv_at hl 3 rfl) ?_
    refine lv_iload_n hx hb dL_law_1195 rfl (lv_at hl 0 rfl) ?_
    refine lv_iconst (v := 5) hx hb dL_law_1196 (by decide) ?_
    refine lv_iadd hx hb dL_law_1197 ?_
    refine k_i 5 (by decide +kernel) ?_
    refine va_sld hx hb hX hbl hbA hS (i := 5) (k_in (k := 5) (by decide +kernel) (by decide)) dL_law_1198 ?_
    refine k_i (xs 5) (congrArg xs (by decide +kernel)) ?_
    refine k_ci (wr := [(a19, .inr (10, [.ref a20, .ref a21, .int 0, .int 0, .int 0, .int (-1), .int 0, .int 0, .int 0, .int 0, .long 0, .ref a22, .ref a23, .ref a24, .ref a25, .ref a26, .ref a27, .ref a28, .ref a29, .ref a30, .ref a31, .ref a32, .ref a33, .ref a34, .ref a35, .ref a36, .ref a37, .ref a38, .ref a39, .ref a40, .ref a41, .ref a42, .ref a43, .ref a44, .ref a45, .ref a46, .ref a47, .ref a48, .ref a49, .ref a50, .int 0, .int 0, .ref a51, .ref a52, .int 0, .int 0, .int 0, .int 0, .ref a53, .int 0, .ref a54, .ref a55, .ref a56, .int 0, .int 0, .int 0, .int 0, .int 0, .int 0, .int 0, .int 0, .ref a57, .int 0, .ref a58, .ref a59, .ref a60, .ref a61, .int 0, .int 0])), (a31, .inl (cI, 2, .inl (fun _ => 0)))]) (k_rV hC hN hK hP hD (c117_X9_twice l G cI cJ cB cZ a0 a1 a2 a3 a4 a5 a6 a7 a8 a9 a10 a11 a12 a13 a14 a15 a16 a17 a18 (xs 1) (xs 2) (xs 3) 1 (xs 5)) [0, 1] rfl (by decide) mi_X9_twice in_X9_twice se_X9_twice wm_L_123 9 0 rfl rfl rfl hl.1 rfl rfl (Nat.le_of_ble_eq_true rfl) ⟨(Nat.le_of_ble_eq_true rfl), (Nat.le_of_ble_eq_true rfl)⟩ dL_law_1199 ⟨(Nat.le_of_ble_eq_true rfl), (Nat.le_of_ble_eq_true rfl)⟩) hP hD hS hA [0, 1] [2, 3] rfl rfl (by decide) (by decide) (fun r5 u5 H locs hp hP hD hS => ?_)
    have hP : va_P G cl [(a19, .inr (10, [.ref a20, .ref a21, .int 0, .int 0, .int 0, .int (-1), .int 0, .int 0, .int 0, .int 0, .long 0, .ref a22, .ref a23, .ref a24, .ref a25, .ref a26, .ref a27, .ref a28, .ref a29, .ref a30, .ref a31, .ref a32, .ref a33, .ref a34, .ref a35, .ref a36, .ref a37, .ref a38, .ref a39, .ref a40, .ref a41, .ref a42, .ref a43, .ref a44, .ref a45, .ref a46, .ref a47, .ref a48, .ref a49, .ref a50, .int 0, .int 0, .ref a51, .ref a52, .int 0, .int 0, .int 0, .int 0, .ref a53, .int 0, .ref a54, .ref a55, .ref a56, .int 0, .int 0, .int 0, .int 0, .int 0, .int 0, .int 0, .int 0, .ref a57, .int 0, .ref a58, .ref a59, .ref a60, .ref a61, .int 0, .int 0])), (a31, .inl (cI, 2, .inl (fun _ => 0)))] H := hP
    have hD : va_D A [(a19, .inr (10, [.ref a20, .ref a21, .int 0, .int 0, .int 0, .int (-1), .int 0, .int 0, .int 0, .int 0, .long 0, .ref a22, .ref a23, .ref a24, .ref a25, .ref a26, .ref a27, .ref a28, .ref a29, .ref a30, .ref a31, .ref a32, .ref a33, .ref a34, .ref a35, .ref a36, .ref a37, .ref a38, .ref a39, .ref a40, .ref a41, .ref a42, .ref a43, .ref a44, .ref a45, .ref a46, .ref a47, .ref a48, .ref a49, .ref a50, .int 0, .int 0, .ref a51, .ref a52, .int 0, .int 0, .int 0, .int 0, .ref a53, .int 0, .ref a54, .ref a55, .ref a56, .int 0, .int 0, .int 0, .int 0, .int 0, .int 0, .int 0, .int 0, .ref a57, .int 0, .ref a58, .ref a59, .ref a60, .ref a61, .int 0, .int 0])), (a31, .inl (cI, 2, .inl (fun _ => 0)))] := hD
    subst hp
    refine lv_aload_n hx hb dL_law_1202 rfl (lv_at hl 1 rfl) ?_
    refine lv_aload_n hx hb dL_law_1203 rfl (lv_at hl 3 rfl) ?_
    refine lv_iload_n hx hb dL_law_1204 rfl (lv_at hl 0 rfl) ?_
    refine lv_iconst (v := 1) hx hb dL_law_1205 (by decide) ?_
    refine lv_iadd hx hb dL_law_1206 ?_
    refine k_i 1 (by decide +kernel) ?_
    refine va_sld hx hb hX hbl hbA hS (i := 1) (k_in (k := 1) (by decide +kernel) (by decide)) dL_law_1207 ?_
    refine k_i (xs 1) (congrArg xs (by decide +kernel)) ?_
    refine lv_aload_n hx hb dL_law_1208 rfl (lv_at hl 3 rfl) ?_
    refine lv_iload_n hx hb dL_law_1209 rfl (lv_at hl 0 rfl) ?_
    refine lv_iconst (v := 2) hx hb dL_law_1210 (by decide) ?_
    refine lv_iadd hx hb dL_law_1211 ?_
    refine k_i 2 (by decide +kernel) ?_
    refine va_sld hx hb hX hbl hbA hS (i := 2) (k_in (k := 2) (by decide +kernel) (by decide)) dL_law_1212 ?_
    refine k_i (xs 2) (congrArg xs (by decide +kernel)) ?_
    refine lv_aload_n hx hb dL_law_1213 rfl (lv_at hl 3 rfl) ?_
    refine lv_iload_n hx hb dL_law_1214 rfl (lv_at hl 0 rfl) ?_
    refine lv_iconst (v := 3) hx hb dL_law_1215 (by decide) ?_
    refine lv_iadd hx hb dL_law_1216 ?_
    refine k_i 3 (by decide +kernel) ?_
    refine va_sld hx hb hX hbl hbA hS (i := 3) (k_in (k := 3) (by decide +kernel) (by decide)) dL_law_1217 ?_
    refine k_i (xs 3) (congrArg xs (by decide +kernel)) ?_
    refine lv_aload_n hx hb dL_law_1218 rfl (lv_at hl 3 rfl) ?_
    refine lv_iload_n hx hb dL_law_1219 rfl (lv_at hl 0 rfl) ?_
    refine lv_iconst (v := 4) hx hb dL_law_1220 (by decide) ?_
    refine lv_iadd hx hb dL_law_1221 ?_
    refine k_i 4 (by decide +kernel) ?_
    refine va_sld hx hb hX hbl hbA hS (i := 4) (k_in (k := 4) (by decide +kernel) (by decide)) dL_law_1222 ?_
    refine k_i (xs 4) (congrArg xs (by decide +kernel)) ?_
    refine lv_if_eq (tgt := 1230) hx hb dL_law_1223 (by decide) (fun c_6 => by have d_6 : (xs 4).toInt = 0 := (fa_eq _ _).mp c_6; omega) (fun c_6 => ?_)
    have d_6 : (xs 4).toInt ≠ 0 := fa_ne c_6
    refine lv_iconst (v := 1) hx hb dL_law_1226 (by decide) ?_
    refine lv_goto (tgt := 1231) hx hb dL_law_1227 (by decide) ?_
    refine lv_aload_n hx hb dL_law_1231 rfl (lv_at hl 3 rfl) ?_
    refine lv_iload_n hx hb dL_law_1232 rfl (lv_at hl 0 rfl) ?_
    refine lv_iconst (v := 5) hx hb dL_law_1233 (by decide) ?_
    refine lv_iadd hx hb dL_law_1234 ?_
    refine k_i 5 (by decide +kernel) ?_
    refine va_sld hx hb hX hbl hbA hS (i := 5) (k_in (k := 5) (by decide +kernel) (by decide)) dL_law_1235 ?_
    refine k_i (xs 5) (congrArg xs (by decide +kernel)) ?_
    refine k_ci (wr := []) (k_rV hC hN hK hP hD (c221_X10_twice l G cI cJ cB cZ a19 a20 a21 a22 a23 a24 a25 a26 a27 a28 a29 a30 a31 a32 a33 a34 a35 a36 a37 a38 a39 a40 a41 a42 a43 a44 a45 a46 a47 a48 a49 a50 a51 a52 a53 a54 a55 a56 a57 a58 a59 a60 a61 (xs 1) (xs 2) (xs 3) 1 (xs 5)) [0, 1] rfl (by decide) mi_X10_twice in_X10_twice se_X10_twice wm_L_127 10 0 rfl rfl rfl hl.1 rfl rfl (Nat.le_of_ble_eq_true rfl) ⟨(Nat.le_of_ble_eq_true rfl), (Nat.le_of_ble_eq_true rfl)⟩ dL_law_1236 ⟨(Nat.le_of_ble_eq_true rfl), (Nat.le_of_ble_eq_true rfl)⟩) hP hD hS hA [0, 1] [] rfl rfl (by decide) (by decide) (fun r7 u7 H locs hp hP hD hS => ?_)
    have hP : va_P G cl [] H := hP
    have hD : va_D A [] := hD
    subst hp
    refine lv_icmp_eq (tgt := 1428) hx hb dL_law_1239 (by decide) (fun _ => ?_) (fun c_ => absurd (by decide +kernel) c_)
    exact law_tail hC hr hlk hX hbl hbA hfo hS hl (Nat.le_of_ble_eq_true rfl) (Nat.le_of_ble_eq_true rfl)
set_option maxRecDepth 100000 in
theorem wm_L_128 : Cond.methodLink RL 128 yX9_ratio ∈ gw := gm (List.mem_of_getElem? (i := 1221) (by decide +kernel)) rfl
set_option maxRecDepth 100000 in
theorem mi_X9_ratio : MI yX9_ratio cX9_ratio 9 (some .int) 4 := ⟨gm (List.mem_of_getElem? (i := 1224) rfl) rfl, gm (List.mem_of_getElem? (i := 112) (by decide +kernel)) rfl, by decide, by decide, by decide +kernel⟩
set_option maxRecDepth 100000 in
theorem in_X9_ratio : Cond.instanceMethod yX9_ratio ∈ gw := gm (List.mem_of_getElem? (i := 1222) (by decide +kernel)) rfl
set_option maxRecDepth 100000 in
theorem se_X9_ratio : Cond.selects yX9_ratio.cls yX9_ratio yX9_ratio ∈ gw := gm (List.mem_of_getElem? (i := 1223) (by decide +kernel)) rfl
set_option maxRecDepth 100000 in
theorem wm_L_132 : Cond.methodLink RL 132 yX10_ratio ∈ gw := gm (List.mem_of_getElem? (i := 1837) (by decide +kernel)) rfl
set_option maxRecDepth 100000 in
theorem mi_X10_ratio : MI yX10_ratio cX10_ratio 6 (some .int) 4 := ⟨gm (List.mem_of_getElem? (i := 1840) rfl) rfl, gm (List.mem_of_getElem? (i := 124) (by decide +kernel)) rfl, by decide, by decide, by decide +kernel⟩
set_option maxRecDepth 100000 in
theorem in_X10_ratio : Cond.instanceMethod yX10_ratio ∈ gw := gm (List.mem_of_getElem? (i := 1838) (by decide +kernel)) rfl
set_option maxRecDepth 100000 in
theorem se_X10_ratio : Cond.selects yX10_ratio.cls yX10_ratio yX10_ratio ∈ gw := gm (List.mem_of_getElem? (i := 1839) (by decide +kernel)) rfl
set_option maxHeartbeats 4000000 in
set_option maxRecDepth 100000 in
theorem law_ratio {p : Program} {l : Launch} {e : Env} {s : State} {m : MethodId} {below : List Frame} {meth : Method} {c : Code} {b : Nat} {xs : Nat → Int32} {A : Nat → Prop} {H : Heap} {locs : List Loc} {ls : Array Slot} {G : va_G} {cI cJ cB cZ : ClassId} (a0 a1 a2 a3 a4 a5 a6 a7 a8 a9 a10 a11 a12 a13 a14 a15 a16 a17 a18 a19 a20 a21 a22 a23 a24 a25 a26 a27 a28 a29 a30 a31 a32 a33 a34 a35 a36 a37 a38 a39 a40 a41 a42 a43 a44 a45 a46 a47 a48 a49 a50 a51 a52 a53 a54 a55 a56 a57 a58 a59 a60 a61 : Nat) (hC : CallFix p m c code 4 s #[Value.ref b] gw R_law) (hr : meth.sig.returnType = ret) (hlk : meth.locks = false) (hN : NW s) (hK : va_K G cl (TY cI cJ cB cZ) s) (hX : va_X b 6 xs s s.heap) (hbl : b < s.heap.size) (hA : ∀ q, s.heap.size ≤ q → A q) (hbA : ¬ A b) (hfo : ∀ q, A q → s.heap.size ≤ q) (hP : va_P G cl [(a0, .inr (9, [.ref a1, .ref a2, .ref a3, .int 0, .int 0, .ref a4, .ref a5, .ref a6, .ref a7])), (a1, .inr (7, [.int 100, .int 100, .int 0, .ref a8, .ref a9, .int 0, .ref a10, .ref a11, .ref a12, .ref a13, .ref a14, .ref a15, .ref a16, .ref a17, .ref a18])), (a19, .inr (10, [.ref a20, .ref a21, .int 0, .int 0, .int 0, .int (-1), .int 0, .int 0, .int 0, .int 0, .long 0, .ref a22, .ref a23, .ref a24, .ref a25, .ref a26, .ref a27, .ref a28, .ref a29, .ref a30, .ref a31, .ref a32, .ref a33, .ref a34, .ref a35, .ref a36, .ref a37, .ref a38, .ref a39, .ref a40, .ref a41, .ref a42, .ref a43, .ref a44, .ref a45, .ref a46, .ref a47, .ref a48, .ref a49, .ref a50, .int 0, .int 0, .ref a51, .ref a52, .int 0, .int 0, .int 0, .int 0, .ref a53, .int 0, .ref a54, .ref a55, .ref a56, .int 0, .int 0, .int 0, .int 0, .int 0, .int 0, .int 0, .int 0, .ref a57, .int 0, .ref a58, .ref a59, .ref a60, .ref a61, .int 0, .int 0])), (a31, .inl (cI, 2, .inl (fun _ => 0)))] H) (hD : va_D A [(a0, .inr (9, [.ref a1, .ref a2, .ref a3, .int 0, .int 0, .ref a4, .ref a5, .ref a6, .ref a7])), (a1, .inr (7, [.int 100, .int 100, .int 0, .ref a8, .ref a9, .int 0, .ref a10, .ref a11, .ref a12, .ref a13, .ref a14, .ref a15, .ref a16, .ref a17, .ref a18])), (a19, .inr (10, [.ref a20, .ref a21, .int 0, .int 0, .int 0, .int (-1), .int 0, .int 0, .int 0, .int 0, .long 0, .ref a22, .ref a23, .ref a24, .ref a25, .ref a26, .ref a27, .ref a28, .ref a29, .ref a30, .ref a31, .ref a32, .ref a33, .ref a34, .ref a35, .ref a36, .ref a37, .ref a38, .ref a39, .ref a40, .ref a41, .ref a42, .ref a43, .ref a44, .ref a45, .ref a46, .ref a47, .ref a48, .ref a49, .ref a50, .int 0, .int 0, .ref a51, .ref a52, .int 0, .int 0, .int 0, .int 0, .ref a53, .int 0, .ref a54, .ref a55, .ref a56, .int 0, .int 0, .int 0, .int 0, .int 0, .int 0, .int 0, .int 0, .ref a57, .int 0, .ref a58, .ref a59, .ref a60, .ref a61, .int 0, .int 0])), (a31, .inl (cI, 2, .inl (fun _ => 0)))]) (hS : va_S A s.heap H locs) (hl : lv_has ls 4 [(3, .int 0), (2, .ref a19), (1, .ref a0), (0, .ref b)]) : W p l e room_1 s m #[Value.ref b] below meth c H locs 1000 1000000 (lw_Z below #[Value.ref b] s) (F0 m 1244 ls []) := by
  obtain ⟨hx, hb, hml, hown, hts⟩ := id hC
  refine lv_aload_n hx hb dL_law_1244 rfl (lv_at hl 2 rfl) ?_
  refine lv_aload_n hx hb dL_law_1245 rfl (lv_at hl 3 rfl) ?_
  refine lv_iload_n hx hb dL_law_1246 rfl (lv_at hl 0 rfl) ?_
  refine lv_iconst (v := 1) hx hb dL_law_1247 (by decide) ?_
  refine lv_iadd hx hb dL_law_1248 ?_
  refine k_i 1 (by decide +kernel) ?_
  refine va_sld hx hb hX hbl hbA hS (i := 1) (k_in (k := 1) (by decide +kernel) (by decide)) dL_law_1249 ?_
  refine k_i (xs 1) (congrArg xs (by decide +kernel)) ?_
  refine lv_aload_n hx hb dL_law_1250 rfl (lv_at hl 3 rfl) ?_
  refine lv_iload_n hx hb dL_law_1251 rfl (lv_at hl 0 rfl) ?_
  refine lv_iconst (v := 2) hx hb dL_law_1252 (by decide) ?_
  refine lv_iadd hx hb dL_law_1253 ?_
  refine k_i 2 (by decide +kernel) ?_
  refine va_sld hx hb hX hbl hbA hS (i := 2) (k_in (k := 2) (by decide +kernel) (by decide)) dL_law_1254 ?_
  refine k_i (xs 2) (congrArg xs (by decide +kernel)) ?_
  refine lv_aload_n hx hb dL_law_1255 rfl (lv_at hl 3 rfl) ?_
  refine lv_iload_n hx hb dL_law_1256 rfl (lv_at hl 0 rfl) ?_
  refine lv_iconst (v := 3) hx hb dL_law_1257 (by decide) ?_
  refine lv_iadd hx hb dL_law_1258 ?_
  refine k_i 3 (by decide +kernel) ?_
  refine va_sld hx hb hX hbl hbA hS (i := 3) (k_in (k := 3) (by decide +kernel) (by decide)) dL_law_1259 ?_
  refine k_i (xs 3) (congrArg xs (by decide +kernel)) ?_
  refine lv_if_eq (tgt := 1267) hx hb dL_law_1260 (by decide) (fun c_1 => ?_) (fun c_1 => ?_)
  · have d_1 : (xs 3).toInt = 0 := (fa_eq _ _).mp c_1
    refine lv_iconst (v := 0) hx hb dL_law_1267 (by decide) ?_
    refine lv_aload_n hx hb dL_law_1268 rfl (lv_at hl 3 rfl) ?_
    refine lv_iload_n hx hb dL_law_1269 rfl (lv_at hl 0 rfl) ?_
    refine lv_iconst (v := 4) hx hb dL_law_1270 (by decide) ?_
    refine lv_iadd hx hb dL_law_1271 ?_
    refine k_i 4 (by decide +kernel) ?_
    refine va_sld hx hb hX hbl hbA hS (i := 4) (k_in (k := 4) (by decide +kernel) (by decide)) dL_law_1272 ?_
    refine k_i (xs 4) (congrArg xs (by decide +kernel)) ?_
    refine k_ci (wr := [(a19, .inr (10, [.ref a20, .ref a21, .int 0, .int 0, .int 0, .int (-1), .int 0, .int 0, .int 0, .int 0, .long 0, .ref a22, .ref a23, .ref a24, .ref a25, .ref a26, .ref a27, .ref a28, .ref a29, .ref a30, .ref a31, .ref a32, .ref a33, .ref a34, .ref a35, .ref a36, .ref a37, .ref a38, .ref a39, .ref a40, .ref a41, .ref a42, .ref a43, .ref a44, .ref a45, .ref a46, .ref a47, .ref a48, .ref a49, .ref a50, .int 0, .int 0, .ref a51, .ref a52, .int 0, .int 0, .int 0, .int 0, .ref a53, .int 0, .ref a54, .ref a55, .ref a56, .int 0, .int 0, .int 0, .int 0, .int 0, .int 0, .int 0, .int 0, .ref a57, .int 0, .ref a58, .ref a59, .ref a60, .ref a61, .int 0, .int 0])), (a31, .inl (cI, 2, .inl (fun _ => 0)))]) (k_rV hC hN hK hP hD (c118_X9_ratio l G cI cJ cB cZ a0 a1 a2 a3 a4 a5 a6 a7 a8 a9 a10 a11 a12 a13 a14 a15 a16 a17 a18 (xs 1) (xs 2) 0 (xs 4)) [0, 1] rfl (by decide) mi_X9_ratio in_X9_ratio se_X9_ratio wm_L_128 9 0 rfl rfl rfl hl.1 rfl rfl (Nat.le_of_ble_eq_true rfl) ⟨(Nat.le_of_ble_eq_true rfl), (Nat.le_of_ble_eq_true rfl)⟩ dL_law_1273 ⟨(Nat.le_of_ble_eq_true rfl), (Nat.le_of_ble_eq_true rfl)⟩) hP hD hS hA [0, 1] [2, 3] rfl rfl (by decide) (by decide) (fun r2 u2 H locs hp hP hD hS => ?_)
    have hP : va_P G cl [(a19, .inr (10, [.ref a20, .ref a21, .int 0, .int 0, .int 0, .int (-1), .int 0, .int 0, .int 0, .int 0, .long 0, .ref a22, .ref a23, .ref a24, .ref a25, .ref a26, .ref a27, .ref a28, .ref a29, .ref a30, .ref a31, .ref a32, .ref a33, .ref a34, .ref a35, .ref a36, .ref a37, .ref a38, .ref a39, .ref a40, .ref a41, .ref a42, .ref a43, .ref a44, .ref a45, .ref a46, .ref a47, .ref a48, .ref a49, .ref a50, .int 0, .int 0, .ref a51, .ref a52, .int 0, .int 0, .int 0, .int 0, .ref a53, .int 0, .ref a54, .ref a55, .ref a56, .int 0, .int 0, .int 0, .int 0, .int 0, .int 0, .int 0, .int 0, .ref a57, .int 0, .ref a58, .ref a59, .ref a60, .ref a61, .int 0, .int 0])), (a31, .inl (cI, 2, .inl (fun _ => 0)))] H := hP
    have hD : va_D A [(a19, .inr (10, [.ref a20, .ref a21, .int 0, .int 0, .int 0, .int (-1), .int 0, .int 0, .int 0, .int 0, .long 0, .ref a22, .ref a23, .ref a24, .ref a25, .ref a26, .ref a27, .ref a28, .ref a29, .ref a30, .ref a31, .ref a32, .ref a33, .ref a34, .ref a35, .ref a36, .ref a37, .ref a38, .ref a39, .ref a40, .ref a41, .ref a42, .ref a43, .ref a44, .ref a45, .ref a46, .ref a47, .ref a48, .ref a49, .ref a50, .int 0, .int 0, .ref a51, .ref a52, .int 0, .int 0, .int 0, .int 0, .ref a53, .int 0, .ref a54, .ref a55, .ref a56, .int 0, .int 0, .int 0, .int 0, .int 0, .int 0, .int 0, .int 0, .ref a57, .int 0, .ref a58, .ref a59, .ref a60, .ref a61, .int 0, .int 0])), (a31, .inl (cI, 2, .inl (fun _ => 0)))] := hD
    subst hp
    refine lv_aload_n hx hb dL_law_1276 rfl (lv_at hl 1 rfl) ?_
    refine lv_aload_n hx hb dL_law_1277 rfl (lv_at hl 3 rfl) ?_
    refine lv_iload_n hx hb dL_law_1278 rfl (lv_at hl 0 rfl) ?_
    refine lv_iconst (v := 1) hx hb dL_law_1279 (by decide) ?_
    refine lv_iadd hx hb dL_law_1280 ?_
    refine k_i 1 (by decide +kernel) ?_
    refine va_sld hx hb hX hbl hbA hS (i := 1) (k_in (k := 1) (by decide +kernel) (by decide)) dL_law_1281 ?_
    refine k_i (xs 1) (congrArg xs (by decide +kernel)) ?_
    refine lv_aload_n hx hb dL_law_1282 rfl (lv_at hl 3 rfl) ?_
    refine lv_iload_n hx hb dL_law_1283 rfl (lv_at hl 0 rfl) ?_
    refine lv_iconst (v := 2) hx hb dL_law_1284 (by decide) ?_
    refine lv_iadd hx hb dL_law_1285 ?_
    refine k_i 2 (by decide +kernel) ?_
    refine va_sld hx hb hX hbl hbA hS (i := 2) (k_in (k := 2) (by decide +kernel) (by decide)) dL_law_1286 ?_
    refine k_i (xs 2) (congrArg xs (by decide +kernel)) ?_
    refine lv_aload_n hx hb dL_law_1287 rfl (lv_at hl 3 rfl) ?_
    refine lv_iload_n hx hb dL_law_1288 rfl (lv_at hl 0 rfl) ?_
    refine lv_iconst (v := 3) hx hb dL_law_1289 (by decide) ?_
    refine lv_iadd hx hb dL_law_1290 ?_
    refine k_i 3 (by decide +kernel) ?_
    refine va_sld hx hb hX hbl hbA hS (i := 3) (k_in (k := 3) (by decide +kernel) (by decide)) dL_law_1291 ?_
    refine k_i (xs 3) (congrArg xs (by decide +kernel)) ?_
    refine lv_if_eq (tgt := 1299) hx hb dL_law_1292 (by decide) (fun c_3 => ?_) (fun c_3 => by have d_3 : (xs 3).toInt ≠ 0 := fa_ne c_3; omega)
    have d_3 : (xs 3).toInt = 0 := (fa_eq _ _).mp c_3
    refine lv_iconst (v := 0) hx hb dL_law_1299 (by decide) ?_
    refine lv_aload_n hx hb dL_law_1300 rfl (lv_at hl 3 rfl) ?_
    refine lv_iload_n hx hb dL_law_1301 rfl (lv_at hl 0 rfl) ?_
    refine lv_iconst (v := 4) hx hb dL_law_1302 (by decide) ?_
    refine lv_iadd hx hb dL_law_1303 ?_
    refine k_i 4 (by decide +kernel) ?_
    refine va_sld hx hb hX hbl hbA hS (i := 4) (k_in (k := 4) (by decide +kernel) (by decide)) dL_law_1304 ?_
    refine k_i (xs 4) (congrArg xs (by decide +kernel)) ?_
    refine k_ci (wr := []) (k_rV hC hN hK hP hD (c222_X10_ratio l G cI cJ cB cZ a19 a20 a21 a22 a23 a24 a25 a26 a27 a28 a29 a30 a31 a32 a33 a34 a35 a36 a37 a38 a39 a40 a41 a42 a43 a44 a45 a46 a47 a48 a49 a50 a51 a52 a53 a54 a55 a56 a57 a58 a59 a60 a61 (xs 1) (xs 2) 0 (xs 4)) [0, 1] rfl (by decide) mi_X10_ratio in_X10_ratio se_X10_ratio wm_L_132 10 0 rfl rfl rfl hl.1 rfl rfl (Nat.le_of_ble_eq_true rfl) ⟨(Nat.le_of_ble_eq_true rfl), (Nat.le_of_ble_eq_true rfl)⟩ dL_law_1305 ⟨(Nat.le_of_ble_eq_true rfl), (Nat.le_of_ble_eq_true rfl)⟩) hP hD hS hA [0, 1] [] rfl rfl (by decide) (by decide) (fun r4 u4 H locs hp hP hD hS => ?_)
    have hP : va_P G cl [] H := hP
    have hD : va_D A [] := hD
    subst hp
    refine lv_icmp_eq (tgt := 1428) hx hb dL_law_1308 (by decide) (fun _ => ?_) (fun c_ => absurd (by decide +kernel) c_)
    exact law_tail hC hr hlk hX hbl hbA hfo hS hl (Nat.le_of_ble_eq_true rfl) (Nat.le_of_ble_eq_true rfl)
  · have d_1 : (xs 3).toInt ≠ 0 := fa_ne c_1
    refine lv_iconst (v := 1) hx hb dL_law_1263 (by decide) ?_
    refine lv_goto (tgt := 1268) hx hb dL_law_1264 (by decide) ?_
    refine lv_aload_n hx hb dL_law_1268 rfl (lv_at hl 3 rfl) ?_
    refine lv_iload_n hx hb dL_law_1269 rfl (lv_at hl 0 rfl) ?_
    refine lv_iconst (v := 4) hx hb dL_law_1270 (by decide) ?_
    refine lv_iadd hx hb dL_law_1271 ?_
    refine k_i 4 (by decide +kernel) ?_
    refine va_sld hx hb hX hbl hbA hS (i := 4) (k_in (k := 4) (by decide +kernel) (by decide)) dL_law_1272 ?_
    refine k_i (xs 4) (congrArg xs (by decide +kernel)) ?_
    refine k_ci (wr := [(a19, .inr (10, [.ref a20, .ref a21, .int 0, .int 0, .int 0, .int (-1), .int 0, .int 0, .int 0, .int 0, .long 0, .ref a22, .ref a23, .ref a24, .ref a25, .ref a26, .ref a27, .ref a28, .ref a29, .ref a30, .ref a31, .ref a32, .ref a33, .ref a34, .ref a35, .ref a36, .ref a37, .ref a38, .ref a39, .ref a40, .ref a41, .ref a42, .ref a43, .ref a44, .ref a45, .ref a46, .ref a47, .ref a48, .ref a49, .ref a50, .int 0, .int 0, .ref a51, .ref a52, .int 0, .int 0, .int 0, .int 0, .ref a53, .int 0, .ref a54, .ref a55, .ref a56, .int 0, .int 0, .int 0, .int 0, .int 0, .int 0, .int 0, .int 0, .ref a57, .int 0, .ref a58, .ref a59, .ref a60, .ref a61, .int 0, .int 0])), (a31, .inl (cI, 2, .inl (fun _ => 0)))]) (k_rV hC hN hK hP hD (c118_X9_ratio l G cI cJ cB cZ a0 a1 a2 a3 a4 a5 a6 a7 a8 a9 a10 a11 a12 a13 a14 a15 a16 a17 a18 (xs 1) (xs 2) 1 (xs 4)) [0, 1] rfl (by decide) mi_X9_ratio in_X9_ratio se_X9_ratio wm_L_128 9 0 rfl rfl rfl hl.1 rfl rfl (Nat.le_of_ble_eq_true rfl) ⟨(Nat.le_of_ble_eq_true rfl), (Nat.le_of_ble_eq_true rfl)⟩ dL_law_1273 ⟨(Nat.le_of_ble_eq_true rfl), (Nat.le_of_ble_eq_true rfl)⟩) hP hD hS hA [0, 1] [2, 3] rfl rfl (by decide) (by decide) (fun r5 u5 H locs hp hP hD hS => ?_)
    have hP : va_P G cl [(a19, .inr (10, [.ref a20, .ref a21, .int 0, .int 0, .int 0, .int (-1), .int 0, .int 0, .int 0, .int 0, .long 0, .ref a22, .ref a23, .ref a24, .ref a25, .ref a26, .ref a27, .ref a28, .ref a29, .ref a30, .ref a31, .ref a32, .ref a33, .ref a34, .ref a35, .ref a36, .ref a37, .ref a38, .ref a39, .ref a40, .ref a41, .ref a42, .ref a43, .ref a44, .ref a45, .ref a46, .ref a47, .ref a48, .ref a49, .ref a50, .int 0, .int 0, .ref a51, .ref a52, .int 0, .int 0, .int 0, .int 0, .ref a53, .int 0, .ref a54, .ref a55, .ref a56, .int 0, .int 0, .int 0, .int 0, .int 0, .int 0, .int 0, .int 0, .ref a57, .int 0, .ref a58, .ref a59, .ref a60, .ref a61, .int 0, .int 0])), (a31, .inl (cI, 2, .inl (fun _ => 0)))] H := hP
    have hD : va_D A [(a19, .inr (10, [.ref a20, .ref a21, .int 0, .int 0, .int 0, .int (-1), .int 0, .int 0, .int 0, .int 0, .long 0, .ref a22, .ref a23, .ref a24, .ref a25, .ref a26, .ref a27, .ref a28, .ref a29, .ref a30, .ref a31, .ref a32, .ref a33, .ref a34, .ref a35, .ref a36, .ref a37, .ref a38, .ref a39, .ref a40, .ref a41, .ref a42, .ref a43, .ref a44, .ref a45, .ref a46, .ref a47, .ref a48, .ref a49, .ref a50, .int 0, .int 0, .ref a51, .ref a52, .int 0, .int 0, .int 0, .int 0, .ref a53, .int 0, .ref a54, .ref a55, .ref a56, .int 0, .int 0, .int 0, .int 0, .int 0, .int 0, .int 0, .int 0, .ref a57, .int 0, .ref a58, .ref a59, .ref a60, .ref a61, .int 0, .int 0])), (a31, .inl (cI, 2, .inl (fun _ => 0)))] := hD
    subst hp
    refine lv_aload_n hx hb dL_law_1276 rfl (lv_at hl 1 rfl) ?_
    refine lv_aload_n hx hb dL_law_1277 rfl (lv_at hl 3 rfl) ?_
    refine lv_iload_n hx hb dL_law_1278 rfl (lv_at hl 0 rfl) ?_
    refine lv_iconst (v := 1) hx hb dL_law_1279 (by decide) ?_
    refine lv_iadd hx hb dL_law_1280 ?_
    refine k_i 1 (by decide +kernel) ?_
    refine va_sld hx hb hX hbl hbA hS (i := 1) (k_in (k := 1) (by decide +kernel) (by decide)) dL_law_1281 ?_
    refine k_i (xs 1) (congrArg xs (by decide +kernel)) ?_
    refine lv_aload_n hx hb dL_law_1282 rfl (lv_at hl 3 rfl) ?_
    refine lv_iload_n hx hb dL_law_1283 rfl (lv_at hl 0 rfl) ?_
    refine lv_iconst (v := 2) hx hb dL_law_1284 (by decide) ?_
    refine lv_iadd hx hb dL_law_1285 ?_
    refine k_i 2 (by decide +kernel) ?_
    refine va_sld hx hb hX hbl hbA hS (i := 2) (k_in (k := 2) (by decide +kernel) (by decide)) dL_law_1286 ?_
    refine k_i (xs 2) (congrArg xs (by decide +kernel)) ?_
    refine lv_aload_n hx hb dL_law_1287 rfl (lv_at hl 3 rfl) ?_
    refine lv_iload_n hx hb dL_law_1288 rfl (lv_at hl 0 rfl) ?_
    refine lv_iconst (v := 3) hx hb dL_law_1289 (by decide) ?_
    refine lv_iadd hx hb dL_law_1290 ?_
    refine k_i 3 (by decide +kernel) ?_
    refine va_sld hx hb hX hbl hbA hS (i := 3) (k_in (k := 3) (by decide +kernel) (by decide)) dL_law_1291 ?_
    refine k_i (xs 3) (congrArg xs (by decide +kernel)) ?_
    refine lv_if_eq (tgt := 1299) hx hb dL_law_1292 (by decide) (fun c_6 => by have d_6 : (xs 3).toInt = 0 := (fa_eq _ _).mp c_6; omega) (fun c_6 => ?_)
    have d_6 : (xs 3).toInt ≠ 0 := fa_ne c_6
    refine lv_iconst (v := 1) hx hb dL_law_1295 (by decide) ?_
    refine lv_goto (tgt := 1300) hx hb dL_law_1296 (by decide) ?_
    refine lv_aload_n hx hb dL_law_1300 rfl (lv_at hl 3 rfl) ?_
    refine lv_iload_n hx hb dL_law_1301 rfl (lv_at hl 0 rfl) ?_
    refine lv_iconst (v := 4) hx hb dL_law_1302 (by decide) ?_
    refine lv_iadd hx hb dL_law_1303 ?_
    refine k_i 4 (by decide +kernel) ?_
    refine va_sld hx hb hX hbl hbA hS (i := 4) (k_in (k := 4) (by decide +kernel) (by decide)) dL_law_1304 ?_
    refine k_i (xs 4) (congrArg xs (by decide +kernel)) ?_
    refine k_ci (wr := []) (k_rV hC hN hK hP hD (c222_X10_ratio l G cI cJ cB cZ a19 a20 a21 a22 a23 a24 a25 a26 a27 a28 a29 a30 a31 a32 a33 a34 a35 a36 a37 a38 a39 a40 a41 a42 a43 a44 a45 a46 a47 a48 a49 a50 a51 a52 a53 a54 a55 a56 a57 a58 a59 a60 a61 (xs 1) (xs 2) 1 (xs 4)) [0, 1] rfl (by decide) mi_X10_ratio in_X10_ratio se_X10_ratio wm_L_132 10 0 rfl rfl rfl hl.1 rfl rfl (Nat.le_of_ble_eq_true rfl) ⟨(Nat.le_of_ble_eq_true rfl), (Nat.le_of_ble_eq_true rfl)⟩ dL_law_1305 ⟨(Nat.le_of_ble_eq_true rfl), (Nat.le_of_ble_eq_true rfl)⟩) hP hD hS hA [0, 1] [] rfl rfl (by decide) (by decide) (fun r7 u7 H locs hp hP hD hS => ?_)
    have hP : va_P G cl [] H := hP
    have hD : va_D A [] := hD
    subst hp
    refine lv_icmp_eq (tgt := 1428) hx hb dL_law_1308 (by decide) (fun _ => ?_) (fun c_ => absurd (by decide +kernel) c_)
    exact law_tail hC hr hlk hX hbl hbA hfo hS hl (Nat.le_of_ble_eq_true rfl) (Nat.le_of_ble_eq_true rfl)
set_option maxRecDepth 100000 in
theorem wm_L_133 : Cond.methodLink RL 133 yX9_sum ∈ gw := gm (List.mem_of_getElem? (i := 1226) (by decide +kernel)) rfl
set_option maxRecDepth 100000 in
theorem mi_X9_sum : MI yX9_sum cX9_sum 7 (some .int) 4 := ⟨gm (List.mem_of_getElem? (i := 1229) rfl) rfl, gm (List.mem_of_getElem? (i := 112) (by decide +kernel)) rfl, by decide, by decide, by decide +kernel⟩
set_option maxRecDepth 100000 in
theorem in_X9_sum : Cond.instanceMethod yX9_sum ∈ gw := gm (List.mem_of_getElem? (i := 1227) (by decide +kernel)) rfl
set_option maxRecDepth 100000 in
theorem se_X9_sum : Cond.selects yX9_sum.cls yX9_sum yX9_sum ∈ gw := gm (List.mem_of_getElem? (i := 1228) (by decide +kernel)) rfl
set_option maxRecDepth 100000 in
theorem wm_L_136 : Cond.methodLink RL 136 yX10_sum ∈ gw := gm (List.mem_of_getElem? (i := 1841) (by decide +kernel)) rfl
set_option maxRecDepth 100000 in
theorem mi_X10_sum : MI yX10_sum cX10_sum 6 (some .int) 4 := ⟨gm (List.mem_of_getElem? (i := 1844) rfl) rfl, gm (List.mem_of_getElem? (i := 124) (by decide +kernel)) rfl, by decide, by decide, by decide +kernel⟩
set_option maxRecDepth 100000 in
theorem in_X10_sum : Cond.instanceMethod yX10_sum ∈ gw := gm (List.mem_of_getElem? (i := 1842) (by decide +kernel)) rfl
set_option maxRecDepth 100000 in
theorem se_X10_sum : Cond.selects yX10_sum.cls yX10_sum yX10_sum ∈ gw := gm (List.mem_of_getElem? (i := 1843) (by decide +kernel)) rfl
set_option maxHeartbeats 4000000 in
set_option maxRecDepth 100000 in
theorem law_sum {p : Program} {l : Launch} {e : Env} {s : State} {m : MethodId} {below : List Frame} {meth : Method} {c : Code} {b : Nat} {xs : Nat → Int32} {A : Nat → Prop} {H : Heap} {locs : List Loc} {ls : Array Slot} {G : va_G} {cI cJ cB cZ : ClassId} (a0 a1 a2 a3 a4 a5 a6 a7 a8 a9 a10 a11 a12 a13 a14 a15 a16 a17 a18 a19 a20 a21 a22 a23 a24 a25 a26 a27 a28 a29 a30 a31 a32 a33 a34 a35 a36 a37 a38 a39 a40 a41 a42 a43 a44 a45 a46 a47 a48 a49 a50 a51 a52 a53 a54 a55 a56 a57 a58 a59 a60 a61 : Nat) (hC : CallFix p m c code 4 s #[Value.ref b] gw R_law) (hr : meth.sig.returnType = ret) (hlk : meth.locks = false) (hN : NW s) (hK : va_K G cl (TY cI cJ cB cZ) s) (hX : va_X b 6 xs s s.heap) (hbl : b < s.heap.size) (hA : ∀ q, s.heap.size ≤ q → A q) (hbA : ¬ A b) (hfo : ∀ q, A q → s.heap.size ≤ q) (hP : va_P G cl [(a0, .inr (9, [.ref a1, .ref a2, .ref a3, .int 0, .int 0, .ref a4, .ref a5, .ref a6, .ref a7])), (a1, .inr (7, [.int 100, .int 100, .int 0, .ref a8, .ref a9, .int 0, .ref a10, .ref a11, .ref a12, .ref a13, .ref a14, .ref a15, .ref a16, .ref a17, .ref a18])), (a19, .inr (10, [.ref a20, .ref a21, .int 0, .int 0, .int 0, .int (-1), .int 0, .int 0, .int 0, .int 0, .long 0, .ref a22, .ref a23, .ref a24, .ref a25, .ref a26, .ref a27, .ref a28, .ref a29, .ref a30, .ref a31, .ref a32, .ref a33, .ref a34, .ref a35, .ref a36, .ref a37, .ref a38, .ref a39, .ref a40, .ref a41, .ref a42, .ref a43, .ref a44, .ref a45, .ref a46, .ref a47, .ref a48, .ref a49, .ref a50, .int 0, .int 0, .ref a51, .ref a52, .int 0, .int 0, .int 0, .int 0, .ref a53, .int 0, .ref a54, .ref a55, .ref a56, .int 0, .int 0, .int 0, .int 0, .int 0, .int 0, .int 0, .int 0, .ref a57, .int 0, .ref a58, .ref a59, .ref a60, .ref a61, .int 0, .int 0])), (a31, .inl (cI, 2, .inl (fun _ => 0)))] H) (hD : va_D A [(a0, .inr (9, [.ref a1, .ref a2, .ref a3, .int 0, .int 0, .ref a4, .ref a5, .ref a6, .ref a7])), (a1, .inr (7, [.int 100, .int 100, .int 0, .ref a8, .ref a9, .int 0, .ref a10, .ref a11, .ref a12, .ref a13, .ref a14, .ref a15, .ref a16, .ref a17, .ref a18])), (a19, .inr (10, [.ref a20, .ref a21, .int 0, .int 0, .int 0, .int (-1), .int 0, .int 0, .int 0, .int 0, .long 0, .ref a22, .ref a23, .ref a24, .ref a25, .ref a26, .ref a27, .ref a28, .ref a29, .ref a30, .ref a31, .ref a32, .ref a33, .ref a34, .ref a35, .ref a36, .ref a37, .ref a38, .ref a39, .ref a40, .ref a41, .ref a42, .ref a43, .ref a44, .ref a45, .ref a46, .ref a47, .ref a48, .ref a49, .ref a50, .int 0, .int 0, .ref a51, .ref a52, .int 0, .int 0, .int 0, .int 0, .ref a53, .int 0, .ref a54, .ref a55, .ref a56, .int 0, .int 0, .int 0, .int 0, .int 0, .int 0, .int 0, .int 0, .ref a57, .int 0, .ref a58, .ref a59, .ref a60, .ref a61, .int 0, .int 0])), (a31, .inl (cI, 2, .inl (fun _ => 0)))]) (hS : va_S A s.heap H locs) (hl : lv_has ls 4 [(3, .int 0), (2, .ref a19), (1, .ref a0), (0, .ref b)]) : W p l e room_1 s m #[Value.ref b] below meth c H locs 1000 1000000 (lw_Z below #[Value.ref b] s) (F0 m 1313 ls []) := by
  obtain ⟨hx, hb, hml, hown, hts⟩ := id hC
  refine lv_aload_n hx hb dL_law_1313 rfl (lv_at hl 2 rfl) ?_
  refine lv_aload_n hx hb dL_law_1314 rfl (lv_at hl 3 rfl) ?_
  refine lv_iload_n hx hb dL_law_1315 rfl (lv_at hl 0 rfl) ?_
  refine lv_iconst (v := 1) hx hb dL_law_1316 (by decide) ?_
  refine lv_iadd hx hb dL_law_1317 ?_
  refine k_i 1 (by decide +kernel) ?_
  refine va_sld hx hb hX hbl hbA hS (i := 1) (k_in (k := 1) (by decide +kernel) (by decide)) dL_law_1318 ?_
  refine k_i (xs 1) (congrArg xs (by decide +kernel)) ?_
  refine lv_aload_n hx hb dL_law_1319 rfl (lv_at hl 3 rfl) ?_
  refine lv_iload_n hx hb dL_law_1320 rfl (lv_at hl 0 rfl) ?_
  refine lv_iconst (v := 2) hx hb dL_law_1321 (by decide) ?_
  refine lv_iadd hx hb dL_law_1322 ?_
  refine k_i 2 (by decide +kernel) ?_
  refine va_sld hx hb hX hbl hbA hS (i := 2) (k_in (k := 2) (by decide +kernel) (by decide)) dL_law_1323 ?_
  refine k_i (xs 2) (congrArg xs (by decide +kernel)) ?_
  refine lv_aload_n hx hb dL_law_1324 rfl (lv_at hl 3 rfl) ?_
  refine lv_iload_n hx hb dL_law_1325 rfl (lv_at hl 0 rfl) ?_
  refine lv_iconst (v := 3) hx hb dL_law_1326 (by decide) ?_
  refine lv_iadd hx hb dL_law_1327 ?_
  refine k_i 3 (by decide +kernel) ?_
  refine va_sld hx hb hX hbl hbA hS (i := 3) (k_in (k := 3) (by decide +kernel) (by decide)) dL_law_1328 ?_
  refine k_i (xs 3) (congrArg xs (by decide +kernel)) ?_
  refine lv_if_eq (tgt := 1336) hx hb dL_law_1329 (by decide) (fun c_1 => ?_) (fun c_1 => ?_)
  · have d_1 : (xs 3).toInt = 0 := (fa_eq _ _).mp c_1
    refine lv_iconst (v := 0) hx hb dL_law_1336 (by decide) ?_
    refine lv_aload_n hx hb dL_law_1337 rfl (lv_at hl 3 rfl) ?_
    refine lv_iload_n hx hb dL_law_1338 rfl (lv_at hl 0 rfl) ?_
    refine lv_iconst (v := 4) hx hb dL_law_1339 (by decide) ?_
    refine lv_iadd hx hb dL_law_1340 ?_
    refine k_i 4 (by decide +kernel) ?_
    refine va_sld hx hb hX hbl hbA hS (i := 4) (k_in (k := 4) (by decide +kernel) (by decide)) dL_law_1341 ?_
    refine k_i (xs 4) (congrArg xs (by decide +kernel)) ?_
    refine k_ci (wr := [(a19, .inr (10, [.ref a20, .ref a21, .int 0, .int 0, .int 0, .int (-1), .int 0, .int 0, .int 0, .int 0, .long 0, .ref a22, .ref a23, .ref a24, .ref a25, .ref a26, .ref a27, .ref a28, .ref a29, .ref a30, .ref a31, .ref a32, .ref a33, .ref a34, .ref a35, .ref a36, .ref a37, .ref a38, .ref a39, .ref a40, .ref a41, .ref a42, .ref a43, .ref a44, .ref a45, .ref a46, .ref a47, .ref a48, .ref a49, .ref a50, .int 0, .int 0, .ref a51, .ref a52, .int 0, .int 0, .int 0, .int 0, .ref a53, .int 0, .ref a54, .ref a55, .ref a56, .int 0, .int 0, .int 0, .int 0, .int 0, .int 0, .int 0, .int 0, .ref a57, .int 0, .ref a58, .ref a59, .ref a60, .ref a61, .int 0, .int 0])), (a31, .inl (cI, 2, .inl (fun _ => 0)))]) (k_rV hC hN hK hP hD (c119_X9_sum l G cI cJ cB cZ a0 a1 a2 a3 a4 a5 a6 a7 a8 a9 a10 a11 a12 a13 a14 a15 a16 a17 a18 (xs 1) (xs 2) 0 (xs 4)) [0, 1] rfl (by decide) mi_X9_sum in_X9_sum se_X9_sum wm_L_133 9 0 rfl rfl rfl hl.1 rfl rfl (Nat.le_of_ble_eq_true rfl) ⟨(Nat.le_of_ble_eq_true rfl), (Nat.le_of_ble_eq_true rfl)⟩ dL_law_1342 ⟨(Nat.le_of_ble_eq_true rfl), (Nat.le_of_ble_eq_true rfl)⟩) hP hD hS hA [0, 1] [2, 3] rfl rfl (by decide) (by decide) (fun r2 u2 H locs hp hP hD hS => ?_)
    have hP : va_P G cl [(a19, .inr (10, [.ref a20, .ref a21, .int 0, .int 0, .int 0, .int (-1), .int 0, .int 0, .int 0, .int 0, .long 0, .ref a22, .ref a23, .ref a24, .ref a25, .ref a26, .ref a27, .ref a28, .ref a29, .ref a30, .ref a31, .ref a32, .ref a33, .ref a34, .ref a35, .ref a36, .ref a37, .ref a38, .ref a39, .ref a40, .ref a41, .ref a42, .ref a43, .ref a44, .ref a45, .ref a46, .ref a47, .ref a48, .ref a49, .ref a50, .int 0, .int 0, .ref a51, .ref a52, .int 0, .int 0, .int 0, .int 0, .ref a53, .int 0, .ref a54, .ref a55, .ref a56, .int 0, .int 0, .int 0, .int 0, .int 0, .int 0, .int 0, .int 0, .ref a57, .int 0, .ref a58, .ref a59, .ref a60, .ref a61, .int 0, .int 0])), (a31, .inl (cI, 2, .inl (fun _ => 0)))] H := hP
    have hD : va_D A [(a19, .inr (10, [.ref a20, .ref a21, .int 0, .int 0, .int 0, .int (-1), .int 0, .int 0, .int 0, .int 0, .long 0, .ref a22, .ref a23, .ref a24, .ref a25, .ref a26, .ref a27, .ref a28, .ref a29, .ref a30, .ref a31, .ref a32, .ref a33, .ref a34, .ref a35, .ref a36, .ref a37, .ref a38, .ref a39, .ref a40, .ref a41, .ref a42, .ref a43, .ref a44, .ref a45, .ref a46, .ref a47, .ref a48, .ref a49, .ref a50, .int 0, .int 0, .ref a51, .ref a52, .int 0, .int 0, .int 0, .int 0, .ref a53, .int 0, .ref a54, .ref a55, .ref a56, .int 0, .int 0, .int 0, .int 0, .int 0, .int 0, .int 0, .int 0, .ref a57, .int 0, .ref a58, .ref a59, .ref a60, .ref a61, .int 0, .int 0])), (a31, .inl (cI, 2, .inl (fun _ => 0)))] := hD
    subst hp
    refine lv_aload_n hx hb dL_law_1345 rfl (lv_at hl 1 rfl) ?_
    refine lv_aload_n hx hb dL_law_1346 rfl (lv_at hl 3 rfl) ?_
    refine lv_iload_n hx hb dL_law_1347 rfl (lv_at hl 0 rfl) ?_
    refine lv_iconst (v := 1) hx hb dL_law_1348 (by decide) ?_
    refine lv_iadd hx hb dL_law_1349 ?_
    refine k_i 1 (by decide +kernel) ?_
    refine va_sld hx hb hX hbl hbA hS (i := 1) (k_in (k := 1) (by decide +kernel) (by decide)) dL_law_1350 ?_
    refine k_i (xs 1) (congrArg xs (by decide +kernel)) ?_
    refine lv_aload_n hx hb dL_law_1351 rfl (lv_at hl 3 rfl) ?_
    refine lv_iload_n hx hb dL_law_1352 rfl (lv_at hl 0 rfl) ?_
    refine lv_iconst (v := 2) hx hb dL_law_1353 (by decide) ?_
    refine lv_iadd hx hb dL_law_1354 ?_
    refine k_i 2 (by decide +kernel) ?_
    refine va_sld hx hb hX hbl hbA hS (i := 2) (k_in (k := 2) (by decide +kernel) (by decide)) dL_law_1355 ?_
    refine k_i (xs 2) (congrArg xs (by decide +kernel)) ?_
    refine lv_aload_n hx hb dL_law_1356 rfl (lv_at hl 3 rfl) ?_
    refine lv_iload_n hx hb dL_law_1357 rfl (lv_at hl 0 rfl) ?_
    refine lv_iconst (v := 3) hx hb dL_law_1358 (by decide) ?_
    refine lv_iadd hx hb dL_law_1359 ?_
    refine k_i 3 (by decide +kernel) ?_
    refine va_sld hx hb hX hbl hbA hS (i := 3) (k_in (k := 3) (by decide +kernel) (by decide)) dL_law_1360 ?_
    refine k_i (xs 3) (congrArg xs (by decide +kernel)) ?_
    refine lv_if_eq (tgt := 1368) hx hb dL_law_1361 (by decide) (fun c_3 => ?_) (fun c_3 => by have d_3 : (xs 3).toInt ≠ 0 := fa_ne c_3; omega)
    have d_3 : (xs 3).toInt = 0 := (fa_eq _ _).mp c_3
    refine lv_iconst (v := 0) hx hb dL_law_1368 (by decide) ?_
    refine lv_aload_n hx hb dL_law_1369 rfl (lv_at hl 3 rfl) ?_
    refine lv_iload_n hx hb dL_law_1370 rfl (lv_at hl 0 rfl) ?_
    refine lv_iconst (v := 4) hx hb dL_law_1371 (by decide) ?_
    refine lv_iadd hx hb dL_law_1372 ?_
    refine k_i 4 (by decide +kernel) ?_
    refine va_sld hx hb hX hbl hbA hS (i := 4) (k_in (k := 4) (by decide +kernel) (by decide)) dL_law_1373 ?_
    refine k_i (xs 4) (congrArg xs (by decide +kernel)) ?_
    refine k_ci (wr := []) (k_rV hC hN hK hP hD (c223_X10_sum l G cI cJ cB cZ a19 a20 a21 a22 a23 a24 a25 a26 a27 a28 a29 a30 a31 a32 a33 a34 a35 a36 a37 a38 a39 a40 a41 a42 a43 a44 a45 a46 a47 a48 a49 a50 a51 a52 a53 a54 a55 a56 a57 a58 a59 a60 a61 (xs 1) (xs 2) 0 (xs 4)) [0, 1] rfl (by decide) mi_X10_sum in_X10_sum se_X10_sum wm_L_136 10 0 rfl rfl rfl hl.1 rfl rfl (Nat.le_of_ble_eq_true rfl) ⟨(Nat.le_of_ble_eq_true rfl), (Nat.le_of_ble_eq_true rfl)⟩ dL_law_1374 ⟨(Nat.le_of_ble_eq_true rfl), (Nat.le_of_ble_eq_true rfl)⟩) hP hD hS hA [0, 1] [] rfl rfl (by decide) (by decide) (fun r4 u4 H locs hp hP hD hS => ?_)
    have hP : va_P G cl [] H := hP
    have hD : va_D A [] := hD
    subst hp
    refine lv_icmp_eq (tgt := 1428) hx hb dL_law_1377 (by decide) (fun _ => ?_) (fun c_ => absurd (by decide +kernel) c_)
    exact law_tail hC hr hlk hX hbl hbA hfo hS hl (Nat.le_of_ble_eq_true rfl) (Nat.le_of_ble_eq_true rfl)
  · have d_1 : (xs 3).toInt ≠ 0 := fa_ne c_1
    refine lv_iconst (v := 1) hx hb dL_law_1332 (by decide) ?_
    refine lv_goto (tgt := 1337) hx hb dL_law_1333 (by decide) ?_
    refine lv_aload_n hx hb dL_law_1337 rfl (lv_at hl 3 rfl) ?_
    refine lv_iload_n hx hb dL_law_1338 rfl (lv_at hl 0 rfl) ?_
    refine lv_iconst (v := 4) hx hb dL_law_1339 (by decide) ?_
    refine lv_iadd hx hb dL_law_1340 ?_
    refine k_i 4 (by decide +kernel) ?_
    refine va_sld hx hb hX hbl hbA hS (i := 4) (k_in (k := 4) (by decide +kernel) (by decide)) dL_law_1341 ?_
    refine k_i (xs 4) (congrArg xs (by decide +kernel)) ?_
    refine k_ci (wr := [(a19, .inr (10, [.ref a20, .ref a21, .int 0, .int 0, .int 0, .int (-1), .int 0, .int 0, .int 0, .int 0, .long 0, .ref a22, .ref a23, .ref a24, .ref a25, .ref a26, .ref a27, .ref a28, .ref a29, .ref a30, .ref a31, .ref a32, .ref a33, .ref a34, .ref a35, .ref a36, .ref a37, .ref a38, .ref a39, .ref a40, .ref a41, .ref a42, .ref a43, .ref a44, .ref a45, .ref a46, .ref a47, .ref a48, .ref a49, .ref a50, .int 0, .int 0, .ref a51, .ref a52, .int 0, .int 0, .int 0, .int 0, .ref a53, .int 0, .ref a54, .ref a55, .ref a56, .int 0, .int 0, .int 0, .int 0, .int 0, .int 0, .int 0, .int 0, .ref a57, .int 0, .ref a58, .ref a59, .ref a60, .ref a61, .int 0, .int 0])), (a31, .inl (cI, 2, .inl (fun _ => 0)))]) (k_rV hC hN hK hP hD (c119_X9_sum l G cI cJ cB cZ a0 a1 a2 a3 a4 a5 a6 a7 a8 a9 a10 a11 a12 a13 a14 a15 a16 a17 a18 (xs 1) (xs 2) 1 (xs 4)) [0, 1] rfl (by decide) mi_X9_sum in_X9_sum se_X9_sum wm_L_133 9 0 rfl rfl rfl hl.1 rfl rfl (Nat.le_of_ble_eq_true rfl) ⟨(Nat.le_of_ble_eq_true rfl), (Nat.le_of_ble_eq_true rfl)⟩ dL_law_1342 ⟨(Nat.le_of_ble_eq_true rfl), (Nat.le_of_ble_eq_true rfl)⟩) hP hD hS hA [0, 1] [2, 3] rfl rfl (by decide) (by decide) (fun r5 u5 H locs hp hP hD hS => ?_)
    have hP : va_P G cl [(a19, .inr (10, [.ref a20, .ref a21, .int 0, .int 0, .int 0, .int (-1), .int 0, .int 0, .int 0, .int 0, .long 0, .ref a22, .ref a23, .ref a24, .ref a25, .ref a26, .ref a27, .ref a28, .ref a29, .ref a30, .ref a31, .ref a32, .ref a33, .ref a34, .ref a35, .ref a36, .ref a37, .ref a38, .ref a39, .ref a40, .ref a41, .ref a42, .ref a43, .ref a44, .ref a45, .ref a46, .ref a47, .ref a48, .ref a49, .ref a50, .int 0, .int 0, .ref a51, .ref a52, .int 0, .int 0, .int 0, .int 0, .ref a53, .int 0, .ref a54, .ref a55, .ref a56, .int 0, .int 0, .int 0, .int 0, .int 0, .int 0, .int 0, .int 0, .ref a57, .int 0, .ref a58, .ref a59, .ref a60, .ref a61, .int 0, .int 0])), (a31, .inl (cI, 2, .inl (fun _ => 0)))] H := hP
    have hD : va_D A [(a19, .inr (10, [.ref a20, .ref a21, .int 0, .int 0, .int 0, .int (-1), .int 0, .int 0, .int 0, .int 0, .long 0, .ref a22, .ref a23, .ref a24, .ref a25, .ref a26, .ref a27, .ref a28, .ref a29, .ref a30, .ref a31, .ref a32, .ref a33, .ref a34, .ref a35, .ref a36, .ref a37, .ref a38, .ref a39, .ref a40, .ref a41, .ref a42, .ref a43, .ref a44, .ref a45, .ref a46, .ref a47, .ref a48, .ref a49, .ref a50, .int 0, .int 0, .ref a51, .ref a52, .int 0, .int 0, .int 0, .int 0, .ref a53, .int 0, .ref a54, .ref a55, .ref a56, .int 0, .int 0, .int 0, .int 0, .int 0, .int 0, .int 0, .int 0, .ref a57, .int 0, .ref a58, .ref a59, .ref a60, .ref a61, .int 0, .int 0])), (a31, .inl (cI, 2, .inl (fun _ => 0)))] := hD
    subst hp
    refine lv_aload_n hx hb dL_law_1345 rfl (lv_at hl 1 rfl) ?_
    refine lv_aload_n hx hb dL_law_1346 rfl (lv_at hl 3 rfl) ?_
    refine lv_iload_n hx hb dL_law_1347 rfl (lv_at hl 0 rfl) ?_
    refine lv_iconst (v := 1) hx hb dL_law_1348 (by decide) ?_
    refine lv_iadd hx hb dL_law_1349 ?_
    refine k_i 1 (by decide +kernel) ?_
    refine va_sld hx hb hX hbl hbA hS (i := 1) (k_in (k := 1) (by decide +kernel) (by decide)) dL_law_1350 ?_
    refine k_i (xs 1) (congrArg xs (by decide +kernel)) ?_
    refine lv_aload_n hx hb dL_law_1351 rfl (lv_at hl 3 rfl) ?_
    refine lv_iload_n hx hb dL_law_1352 rfl (lv_at hl 0 rfl) ?_
    refine lv_iconst (v := 2) hx hb dL_law_1353 (by decide) ?_
    refine lv_iadd hx hb dL_law_1354 ?_
    refine k_i 2 (by decide +kernel) ?_
    refine va_sld hx hb hX hbl hbA hS (i := 2) (k_in (k := 2) (by decide +kernel) (by decide)) dL_law_1355 ?_
    refine k_i (xs 2) (congrArg xs (by decide +kernel)) ?_
    refine lv_aload_n hx hb dL_law_1356 rfl (lv_at hl 3 rfl) ?_
    refine lv_iload_n hx hb dL_law_1357 rfl (lv_at hl 0 rfl) ?_
    refine lv_iconst (v := 3) hx hb dL_law_1358 (by decide) ?_
    refine lv_iadd hx hb dL_law_1359 ?_
    refine k_i 3 (by decide +kernel) ?_
    refine va_sld hx hb hX hbl hbA hS (i := 3) (k_in (k := 3) (by decide +kernel) (by decide)) dL_law_1360 ?_
    refine k_i (xs 3) (congrArg xs (by decide +kernel)) ?_
    refine lv_if_eq (tgt := 1368) hx hb dL_law_1361 (by decide) (fun c_6 => by have d_6 : (xs 3).toInt = 0 := (fa_eq _ _).mp c_6; omega) (fun c_6 => ?_)
    have d_6 : (xs 3).toInt ≠ 0 := fa_ne c_6
    refine lv_iconst (v := 1) hx hb dL_law_1364 (by decide) ?_
    refine lv_goto (tgt := 1369) hx hb dL_law_1365 (by decide) ?_
    refine lv_aload_n hx hb dL_law_1369 rfl (lv_at hl 3 rfl) ?_
    refine lv_iload_n hx hb dL_law_1370 rfl (lv_at hl 0 rfl) ?_
    refine lv_iconst (v := 4) hx hb dL_law_1371 (by decide) ?_
    refine lv_iadd hx hb dL_law_1372 ?_
    refine k_i 4 (by decide +kernel) ?_
    refine va_sld hx hb hX hbl hbA hS (i := 4) (k_in (k := 4) (by decide +kernel) (by decide)) dL_law_1373 ?_
    refine k_i (xs 4) (congrArg xs (by decide +kernel)) ?_
    refine k_ci (wr := []) (k_rV hC hN hK hP hD (c223_X10_sum l G cI cJ cB cZ a19 a20 a21 a22 a23 a24 a25 a26 a27 a28 a29 a30 a31 a32 a33 a34 a35 a36 a37 a38 a39 a40 a41 a42 a43 a44 a45 a46 a47 a48 a49 a50 a51 a52 a53 a54 a55 a56 a57 a58 a59 a60 a61 (xs 1) (xs 2) 1 (xs 4)) [0, 1] rfl (by decide) mi_X10_sum in_X10_sum se_X10_sum wm_L_136 10 0 rfl rfl rfl hl.1 rfl rfl (Nat.le_of_ble_eq_true rfl) ⟨(Nat.le_of_ble_eq_true rfl), (Nat.le_of_ble_eq_true rfl)⟩ dL_law_1374 ⟨(Nat.le_of_ble_eq_true rfl), (Nat.le_of_ble_eq_true rfl)⟩) hP hD hS hA [0, 1] [] rfl rfl (by decide) (by decide) (fun r7 u7 H locs hp hP hD hS => ?_)
    have hP : va_P G cl [] H := hP
    have hD : va_D A [] := hD
    subst hp
    refine lv_icmp_eq (tgt := 1428) hx hb dL_law_1377 (by decide) (fun _ => ?_) (fun c_ => absurd (by decide +kernel) c_)
    exact law_tail hC hr hlk hX hbl hbA hfo hS hl (Nat.le_of_ble_eq_true rfl) (Nat.le_of_ble_eq_true rfl)
set_option maxRecDepth 100000 in
theorem wm_L_137 : Cond.methodLink RL 137 yX9_thumbs ∈ gw := gm (List.mem_of_getElem? (i := 1230) (by decide +kernel)) rfl
set_option maxRecDepth 100000 in
theorem mi_X9_thumbs : MI yX9_thumbs cX9_thumbs 2 (some .int) 1 := ⟨gm (List.mem_of_getElem? (i := 1233) rfl) rfl, gm (List.mem_of_getElem? (i := 112) (by decide +kernel)) rfl, by decide, by decide, by decide +kernel⟩
set_option maxRecDepth 100000 in
theorem in_X9_thumbs : Cond.instanceMethod yX9_thumbs ∈ gw := gm (List.mem_of_getElem? (i := 1231) (by decide +kernel)) rfl
set_option maxRecDepth 100000 in
theorem se_X9_thumbs : Cond.selects yX9_thumbs.cls yX9_thumbs yX9_thumbs ∈ gw := gm (List.mem_of_getElem? (i := 1232) (by decide +kernel)) rfl
set_option maxRecDepth 100000 in
theorem wm_L_140 : Cond.methodLink RL 140 yX10_thumbs ∈ gw := gm (List.mem_of_getElem? (i := 1845) (by decide +kernel)) rfl
set_option maxRecDepth 100000 in
theorem mi_X10_thumbs : MI yX10_thumbs cX10_thumbs 6 (some .int) 1 := ⟨gm (List.mem_of_getElem? (i := 1848) rfl) rfl, gm (List.mem_of_getElem? (i := 124) (by decide +kernel)) rfl, by decide, by decide, by decide +kernel⟩
set_option maxRecDepth 100000 in
theorem in_X10_thumbs : Cond.instanceMethod yX10_thumbs ∈ gw := gm (List.mem_of_getElem? (i := 1846) (by decide +kernel)) rfl
set_option maxRecDepth 100000 in
theorem se_X10_thumbs : Cond.selects yX10_thumbs.cls yX10_thumbs yX10_thumbs ∈ gw := gm (List.mem_of_getElem? (i := 1847) (by decide +kernel)) rfl
set_option maxHeartbeats 4000000 in
set_option maxRecDepth 100000 in
theorem law_thumbs {p : Program} {l : Launch} {e : Env} {s : State} {m : MethodId} {below : List Frame} {meth : Method} {c : Code} {b : Nat} {xs : Nat → Int32} {A : Nat → Prop} {H : Heap} {locs : List Loc} {ls : Array Slot} {G : va_G} {cI cJ cB cZ : ClassId} (a0 a1 a2 a3 a4 a5 a6 a7 a8 a9 a10 a11 a12 a13 a14 a15 a16 a17 a18 a19 a20 a21 a22 a23 a24 a25 a26 a27 a28 a29 a30 a31 a32 a33 a34 a35 a36 a37 a38 a39 a40 a41 a42 a43 a44 a45 a46 a47 a48 a49 a50 a51 a52 a53 a54 a55 a56 a57 a58 a59 a60 a61 a62 a63 a64 a65 a66 a67 a68 a69 a70 a71 a72 a73 a74 a75 a76 a77 a78 a79 a80 a81 a82 a83 a84 a85 a86 a87 a88 : Nat) (hC : CallFix p m c code 4 s #[Value.ref b] gw R_law) (hr : meth.sig.returnType = ret) (hlk : meth.locks = false) (hN : NW s) (hK : va_K G cl (TY cI cJ cB cZ) s) (hX : va_X b 6 xs s s.heap) (hbl : b < s.heap.size) (hA : ∀ q, s.heap.size ≤ q → A q) (hbA : ¬ A b) (hfo : ∀ q, A q → s.heap.size ≤ q) (hP : va_P G cl [(a0, .inr (9, [.ref a1, .ref a2, .ref a3, .int 0, .int 0, .ref a4, .ref a5, .ref a6, .ref a7])), (a1, .inr (7, [.int 100, .int 100, .int 0, .ref a8, .ref a9, .int 0, .ref a10, .ref a11, .ref a12, .ref a13, .ref a14, .ref a15, .ref a16, .ref a17, .ref a18])), (a9, .inl (cI, 2, .inl (upd (upd (fun _ => 0) 0 16) 1 16))), (a8, .inl (cI, 2, .inl (upd (upd (fun _ => 0) 0 16) 1 16))), (a17, .inr (8, [.ref a19, .ref a20, .ref a21, .ref a22, .ref a23, .ref a24, .ref a25, .int 0])), (a3, .inr (8, [.ref a26, .ref a27, .ref a28, .ref a29, .ref a30, .ref a31, .ref a32, .int 0])), (a4, .inr (4, [.ref a33, .ref a5, .ref a34, .ref a35, .ref a36, .ref a37, .ref a38, .int 100, .int 0, .int 0, .int (-1)])), (a34, .inr (8, [.ref a39, .ref a40, .ref a41, .ref a42, .ref a43, .ref a44, .ref a45, .int 0])), (a35, .inl (cI, 7, .inl (fun _ => 0))), (a46, .inr (10, [.ref a47, .ref a48, .int 0, .int 0, .int 0, .int (-1), .int 0, .int 0, .int 0, .int 0, .long 0, .ref a49, .ref a50, .ref a51, .ref a52, .ref a53, .ref a54, .ref a55, .ref a56, .ref a57, .ref a58, .ref a59, .ref a60, .ref a61, .ref a62, .ref a63, .ref a64, .ref a65, .ref a66, .ref a67, .ref a68, .ref a69, .ref a70, .ref a71, .ref a72, .ref a73, .ref a74, .ref a75, .ref a76, .ref a77, .int 0, .int 0, .ref a78, .ref a79, .int 0, .int 0, .int 0, .int 0, .ref a80, .int 0, .ref a81, .ref a82, .ref a83, .int 0, .int 0, .int 0, .int 0, .int 0, .int 0, .int 0, .int 0, .ref a84, .int 0, .ref a85, .ref a86, .ref a87, .ref a88, .int 0, .int 0])), (a54, .inl (cI, 2, .inl (upd (fun _ => 0) 0 100))), (a53, .inl (cI, 2, .inl (upd (fun _ => 0) 0 100))), (a57, .inl (cI, 4, .inl (upd (upd (fun _ => 0) 0 16) 1 16))), (a56, .inl (cI, 4, .inl (upd (upd (fun _ => 0) 0 16) 1 16))), (a58, .inl (cI, 2, .inl (fun _ => 0))), (a65, .inl (cI, 2, .inl (fun _ => 0))), (a83, .inl (cI, 2, .inl (fun _ => 0))), (a81, .inl (cI, 300000, .inl (fun _ => 0)))] H) (hD : va_D A [(a0, .inr (9, [.ref a1, .ref a2, .ref a3, .int 0, .int 0, .ref a4, .ref a5, .ref a6, .ref a7])), (a1, .inr (7, [.int 100, .int 100, .int 0, .ref a8, .ref a9, .int 0, .ref a10, .ref a11, .ref a12, .ref a13, .ref a14, .ref a15, .ref a16, .ref a17, .ref a18])), (a9, .inl (cI, 2, .inl (upd (upd (fun _ => 0) 0 16) 1 16))), (a8, .inl (cI, 2, .inl (upd (upd (fun _ => 0) 0 16) 1 16))), (a17, .inr (8, [.ref a19, .ref a20, .ref a21, .ref a22, .ref a23, .ref a24, .ref a25, .int 0])), (a3, .inr (8, [.ref a26, .ref a27, .ref a28, .ref a29, .ref a30, .ref a31, .ref a32, .int 0])), (a4, .inr (4, [.ref a33, .ref a5, .ref a34, .ref a35, .ref a36, .ref a37, .ref a38, .int 100, .int 0, .int 0, .int (-1)])), (a34, .inr (8, [.ref a39, .ref a40, .ref a41, .ref a42, .ref a43, .ref a44, .ref a45, .int 0])), (a35, .inl (cI, 7, .inl (fun _ => 0))), (a46, .inr (10, [.ref a47, .ref a48, .int 0, .int 0, .int 0, .int (-1), .int 0, .int 0, .int 0, .int 0, .long 0, .ref a49, .ref a50, .ref a51, .ref a52, .ref a53, .ref a54, .ref a55, .ref a56, .ref a57, .ref a58, .ref a59, .ref a60, .ref a61, .ref a62, .ref a63, .ref a64, .ref a65, .ref a66, .ref a67, .ref a68, .ref a69, .ref a70, .ref a71, .ref a72, .ref a73, .ref a74, .ref a75, .ref a76, .ref a77, .int 0, .int 0, .ref a78, .ref a79, .int 0, .int 0, .int 0, .int 0, .ref a80, .int 0, .ref a81, .ref a82, .ref a83, .int 0, .int 0, .int 0, .int 0, .int 0, .int 0, .int 0, .int 0, .ref a84, .int 0, .ref a85, .ref a86, .ref a87, .ref a88, .int 0, .int 0])), (a54, .inl (cI, 2, .inl (upd (fun _ => 0) 0 100))), (a53, .inl (cI, 2, .inl (upd (fun _ => 0) 0 100))), (a57, .inl (cI, 4, .inl (upd (upd (fun _ => 0) 0 16) 1 16))), (a56, .inl (cI, 4, .inl (upd (upd (fun _ => 0) 0 16) 1 16))), (a58, .inl (cI, 2, .inl (fun _ => 0))), (a65, .inl (cI, 2, .inl (fun _ => 0))), (a83, .inl (cI, 2, .inl (fun _ => 0))), (a81, .inl (cI, 300000, .inl (fun _ => 0)))]) (hS : va_S A s.heap H locs) (hl : lv_has ls 4 [(3, .int 0), (2, .ref a46), (1, .ref a0), (0, .ref b)]) : W p l e room_1 s m #[Value.ref b] below meth c H locs 1000 1000000 (lw_Z below #[Value.ref b] s) (F0 m 1382 ls []) := by
  obtain ⟨hx, hb, hml, hown, hts⟩ := id hC
  refine lv_aload_n hx hb dL_law_1382 rfl (lv_at hl 2 rfl) ?_
  refine lv_aload_n hx hb dL_law_1383 rfl (lv_at hl 3 rfl) ?_
  refine lv_iload_n hx hb dL_law_1384 rfl (lv_at hl 0 rfl) ?_
  refine lv_iconst (v := 1) hx hb dL_law_1385 (by decide) ?_
  refine lv_iadd hx hb dL_law_1386 ?_
  refine k_i 1 (by decide +kernel) ?_
  refine va_sld hx hb hX hbl hbA hS (i := 1) (k_in (k := 1) (by decide +kernel) (by decide)) dL_law_1387 ?_
  refine k_i (xs 1) (congrArg xs (by decide +kernel)) ?_
  refine k_ci (wr := [(a46, .inr (10, [.ref a47, .ref a48, .int 0, .int 0, .int 0, .int (-1), .int 0, .int 0, .int 0, .int 0, .long 0, .ref a49, .ref a50, .ref a51, .ref a52, .ref a53, .ref a54, .ref a55, .ref a56, .ref a57, .ref a58, .ref a59, .ref a60, .ref a61, .ref a62, .ref a63, .ref a64, .ref a65, .ref a66, .ref a67, .ref a68, .ref a69, .ref a70, .ref a71, .ref a72, .ref a73, .ref a74, .ref a75, .ref a76, .ref a77, .int 0, .int 0, .ref a78, .ref a79, .int 0, .int 0, .int 0, .int 0, .ref a80, .int 0, .ref a81, .ref a82, .ref a83, .int 0, .int 0, .int 0, .int 0, .int 0, .int 0, .int 0, .int 0, .ref a84, .int 0, .ref a85, .ref a86, .ref a87, .ref a88, .int 0, .int 0])), (a54, .inl (cI, 2, .inl (upd (fun _ => 0) 0 100))), (a53, .inl (cI, 2, .inl (upd (fun _ => 0) 0 100))), (a57, .inl (cI, 4, .inl (upd (upd (fun _ => 0) 0 16) 1 16))), (a56, .inl (cI, 4, .inl (upd (upd (fun _ => 0) 0 16) 1 16))), (a58, .inl (cI, 2, .inl (fun _ => 0))), (a65, .inl (cI, 2, .inl (fun _ => 0))), (a83, .inl (cI, 2, .inl (fun _ => 0))), (a81, .inl (cI, 300000, .inl (fun _ => 0)))]) (k_rV hC hN hK hP hD (c124_X9_thumbs l G cI cJ cB cZ a0 a1 a2 a3 a4 a5 a6 a7 a8 a9 a10 a11 a12 a13 a14 a15 a16 a17 a18 a19 a20 a21 a22 a23 a24 a25 a26 a27 a28 a29 a30 a31 a32 a33 a34 a35 a36 a37 a38 a39 a40 a41 a42 a43 a44 a45 (xs 1)) [0, 1, 2, 3, 4, 5, 6, 7, 8] rfl (by decide) mi_X9_thumbs in_X9_thumbs se_X9_thumbs wm_L_137 9 0 rfl rfl rfl hl.1 rfl rfl (Nat.le_of_ble_eq_true rfl) ⟨(Nat.le_of_ble_eq_true rfl), (Nat.le_of_ble_eq_true rfl)⟩ dL_law_1388 ⟨(Nat.le_of_ble_eq_true rfl), (Nat.le_of_ble_eq_true rfl)⟩) hP hD hS hA [0, 1, 2, 3, 4, 5, 6, 7, 8] [9, 10, 11, 12, 13, 14, 15, 16, 17] rfl rfl (by decide) (by decide) (fun r1 u1 H locs hp hP hD hS => ?_)
  have hP : va_P G cl [(a46, .inr (10, [.ref a47, .ref a48, .int 0, .int 0, .int 0, .int (-1), .int 0, .int 0, .int 0, .int 0, .long 0, .ref a49, .ref a50, .ref a51, .ref a52, .ref a53, .ref a54, .ref a55, .ref a56, .ref a57, .ref a58, .ref a59, .ref a60, .ref a61, .ref a62, .ref a63, .ref a64, .ref a65, .ref a66, .ref a67, .ref a68, .ref a69, .ref a70, .ref a71, .ref a72, .ref a73, .ref a74, .ref a75, .ref a76, .ref a77, .int 0, .int 0, .ref a78, .ref a79, .int 0, .int 0, .int 0, .int 0, .ref a80, .int 0, .ref a81, .ref a82, .ref a83, .int 0, .int 0, .int 0, .int 0, .int 0, .int 0, .int 0, .int 0, .ref a84, .int 0, .ref a85, .ref a86, .ref a87, .ref a88, .int 0, .int 0])), (a54, .inl (cI, 2, .inl (upd (fun _ => 0) 0 100))), (a53, .inl (cI, 2, .inl (upd (fun _ => 0) 0 100))), (a57, .inl (cI, 4, .inl (upd (upd (fun _ => 0) 0 16) 1 16))), (a56, .inl (cI, 4, .inl (upd (upd (fun _ => 0) 0 16) 1 16))), (a58, .inl (cI, 2, .inl (fun _ => 0))), (a65, .inl (cI, 2, .inl (fun _ => 0))), (a83, .inl (cI, 2, .inl (fun _ => 0))), (a81, .inl (cI, 300000, .inl (fun _ => 0)))] H := hP
  have hD : va_D A [(a46, .inr (10, [.ref a47, .ref a48, .int 0, .int 0, .int 0, .int (-1), .int 0, .int 0, .int 0, .int 0, .long 0, .ref a49, .ref a50, .ref a51, .ref a52, .ref a53, .ref a54, .ref a55, .ref a56, .ref a57, .ref a58, .ref a59, .ref a60, .ref a61, .ref a62, .ref a63, .ref a64, .ref a65, .ref a66, .ref a67, .ref a68, .ref a69, .ref a70, .ref a71, .ref a72, .ref a73, .ref a74, .ref a75, .ref a76, .ref a77, .int 0, .int 0, .ref a78, .ref a79, .int 0, .int 0, .int 0, .int 0, .ref a80, .int 0, .ref a81, .ref a82, .ref a83, .int 0, .int 0, .int 0, .int 0, .int 0, .int 0, .int 0, .int 0, .ref a84, .int 0, .ref a85, .ref a86, .ref a87, .ref a88, .int 0, .int 0])), (a54, .inl (cI, 2, .inl (upd (fun _ => 0) 0 100))), (a53, .inl (cI, 2, .inl (upd (fun _ => 0) 0 100))), (a57, .inl (cI, 4, .inl (upd (upd (fun _ => 0) 0 16) 1 16))), (a56, .inl (cI, 4, .inl (upd (upd (fun _ => 0) 0 16) 1 16))), (a58, .inl (cI, 2, .inl (fun _ => 0))), (a65, .inl (cI, 2, .inl (fun _ => 0))), (a83, .inl (cI, 2, .inl (fun _ => 0))), (a81, .inl (cI, 300000, .inl (fun _ => 0)))] := hD
  subst hp
  refine lv_aload_n hx hb dL_law_1391 rfl (lv_at hl 1 rfl) ?_
  refine lv_aload_n hx hb dL_law_1392 rfl (lv_at hl 3 rfl) ?_
  refine lv_iload_n hx hb dL_law_1393 rfl (lv_at hl 0 rfl) ?_
  refine lv_iconst (v := 1) hx hb dL_law_1394 (by decide) ?_
  refine lv_iadd hx hb dL_law_1395 ?_
  refine k_i 1 (by decide +kernel) ?_
  refine va_sld hx hb hX hbl hbA hS (i := 1) (k_in (k := 1) (by decide +kernel) (by decide)) dL_law_1396 ?_
  refine k_i (xs 1) (congrArg xs (by decide +kernel)) ?_
  refine k_ci (wr := []) (k_rV hC hN hK hP hD (c227_X10_thumbs l G cI cJ cB cZ a46 a47 a48 a49 a50 a51 a52 a53 a54 a55 a56 a57 a58 a59 a60 a61 a62 a63 a64 a65 a66 a67 a68 a69 a70 a71 a72 a73 a74 a75 a76 a77 a78 a79 a80 a81 a82 a83 a84 a85 a86 a87 a88 (xs 1)) [0, 1, 2, 3, 4, 5, 6, 7, 8] rfl (by decide) mi_X10_thumbs in_X10_thumbs se_X10_thumbs wm_L_140 10 0 rfl rfl rfl hl.1 rfl rfl (Nat.le_of_ble_eq_true rfl) ⟨(Nat.le_of_ble_eq_true rfl), (Nat.le_of_ble_eq_true rfl)⟩ dL_law_1397 ⟨(Nat.le_of_ble_eq_true rfl), (Nat.le_of_ble_eq_true rfl)⟩) hP hD hS hA [0, 1, 2, 3, 4, 5, 6, 7, 8] [] rfl rfl (by decide) (by decide) (fun r2 u2 H locs hp hP hD hS => ?_)
  have hP : va_P G cl [] H := hP
  have hD : va_D A [] := hD
  subst hp
  refine lv_icmp_eq (tgt := 1428) hx hb dL_law_1400 (by decide) (fun _ => ?_) (fun c_ => absurd (by decide +kernel) c_)
  exact law_tail hC hr hlk hX hbl hbA hfo hS hl (Nat.le_of_ble_eq_true rfl) (Nat.le_of_ble_eq_true rfl)
set_option maxRecDepth 100000 in
theorem wm_L_141 : Cond.methodLink RL 141 yX9_about ∈ gw := gm (List.mem_of_getElem? (i := 1239) (by decide +kernel)) rfl
set_option maxRecDepth 100000 in
theorem mi_X9_about : MI yX9_about cX9_about 2 (some .int) 1 := ⟨gm (List.mem_of_getElem? (i := 1242) rfl) rfl, gm (List.mem_of_getElem? (i := 112) (by decide +kernel)) rfl, by decide, by decide, by decide +kernel⟩
set_option maxRecDepth 100000 in
theorem in_X9_about : Cond.instanceMethod yX9_about ∈ gw := gm (List.mem_of_getElem? (i := 1240) (by decide +kernel)) rfl
set_option maxRecDepth 100000 in
theorem se_X9_about : Cond.selects yX9_about.cls yX9_about yX9_about ∈ gw := gm (List.mem_of_getElem? (i := 1241) (by decide +kernel)) rfl
set_option maxRecDepth 100000 in
theorem wm_L_144 : Cond.methodLink RL 144 yX10_about ∈ gw := gm (List.mem_of_getElem? (i := 1854) (by decide +kernel)) rfl
set_option maxRecDepth 100000 in
theorem mi_X10_about : MI yX10_about cX10_about 2 (some .int) 1 := ⟨gm (List.mem_of_getElem? (i := 1857) rfl) rfl, gm (List.mem_of_getElem? (i := 124) (by decide +kernel)) rfl, by decide, by decide, by decide +kernel⟩
set_option maxRecDepth 100000 in
theorem in_X10_about : Cond.instanceMethod yX10_about ∈ gw := gm (List.mem_of_getElem? (i := 1855) (by decide +kernel)) rfl
set_option maxRecDepth 100000 in
theorem se_X10_about : Cond.selects yX10_about.cls yX10_about yX10_about ∈ gw := gm (List.mem_of_getElem? (i := 1856) (by decide +kernel)) rfl
set_option maxHeartbeats 4000000 in
set_option maxRecDepth 100000 in
theorem law_about {p : Program} {l : Launch} {e : Env} {s : State} {m : MethodId} {below : List Frame} {meth : Method} {c : Code} {b : Nat} {xs : Nat → Int32} {A : Nat → Prop} {H : Heap} {locs : List Loc} {ls : Array Slot} {G : va_G} {cI cJ cB cZ : ClassId} (a0 a1 a2 a3 a4 a5 a6 a7 a8 a9 a10 a11 a12 a13 a14 a15 a16 a17 a18 a19 a20 a21 a22 a23 a24 a25 a26 a27 a28 a29 a30 a31 a32 a33 a34 a35 a36 a37 a38 a39 a40 a41 a42 a43 a44 a45 a46 a47 a48 a49 a50 a51 a52 a53 a54 a55 a56 a57 a58 a59 a60 a61 a62 a63 a64 a65 a66 a67 a68 a69 a70 a71 a72 a73 a74 a75 a76 a77 a78 a79 a80 a81 a82 : Nat) (hC : CallFix p m c code 4 s #[Value.ref b] gw R_law) (hr : meth.sig.returnType = ret) (hlk : meth.locks = false) (hN : NW s) (hK : va_K G cl (TY cI cJ cB cZ) s) (hX : va_X b 6 xs s s.heap) (hbl : b < s.heap.size) (hA : ∀ q, s.heap.size ≤ q → A q) (hbA : ¬ A b) (hfo : ∀ q, A q → s.heap.size ≤ q) (hP : va_P G cl [(a0, .inr (9, [.ref a1, .ref a2, .ref a3, .int 0, .int 0, .ref a4, .ref a5, .ref a6, .ref a7])), (a1, .inr (7, [.int 100, .int 100, .int 0, .ref a8, .ref a9, .int 0, .ref a10, .ref a11, .ref a12, .ref a13, .ref a14, .ref a15, .ref a16, .ref a17, .ref a18])), (a17, .inr (8, [.ref a19, .ref a20, .ref a21, .ref a22, .ref a23, .ref a24, .ref a25, .int 0])), (a3, .inr (8, [.ref a26, .ref a27, .ref a28, .ref a29, .ref a30, .ref a31, .ref a32, .int 0])), (a18, .inr (3, [.ref a33, .ref a34, .ref a35, .ref a36, .int 0])), (a2, .inr (2, [.ref a37, .ref a38, .int 0, .int 0, .int 0, .int 0, .int 0, .int (-1)])), (a37, .inr (5, [.ref a39, .int 0, .int 0, .int 0, .int 0, .long 0, .int 0])), (a40, .inr (10, [.ref a41, .ref a42, .int 0, .int 0, .int 0, .int (-1), .int 0, .int 0, .int 0, .int 0, .long 0, .ref a43, .ref a44, .ref a45, .ref a46, .ref a47, .ref a48, .ref a49, .ref a50, .ref a51, .ref a52, .ref a53, .ref a54, .ref a55, .ref a56, .ref a57, .ref a58, .ref a59, .ref a60, .ref a61, .ref a62, .ref a63, .ref a64, .ref a65, .ref a66, .ref a67, .ref a68, .ref a69, .ref a70, .ref a71, .int 0, .int 0, .ref a72, .ref a73, .int 0, .int 0, .int 0, .int 0, .ref a74, .int 0, .ref a75, .ref a76, .ref a77, .int 0, .int 0, .int 0, .int 0, .int 0, .int 0, .int 0, .int 0, .ref a78, .int 0, .ref a79, .ref a80, .ref a81, .ref a82, .int 0, .int 0])), (a52, .inl (cI, 2, .inl (fun _ => 0))), (a59, .inl (cI, 2, .inl (fun _ => 0))), (a60, .inl (cI, 2, .inl (fun _ => 0)))] H) (hD : va_D A [(a0, .inr (9, [.ref a1, .ref a2, .ref a3, .int 0, .int 0, .ref a4, .ref a5, .ref a6, .ref a7])), (a1, .inr (7, [.int 100, .int 100, .int 0, .ref a8, .ref a9, .int 0, .ref a10, .ref a11, .ref a12, .ref a13, .ref a14, .ref a15, .ref a16, .ref a17, .ref a18])), (a17, .inr (8, [.ref a19, .ref a20, .ref a21, .ref a22, .ref a23, .ref a24, .ref a25, .int 0])), (a3, .inr (8, [.ref a26, .ref a27, .ref a28, .ref a29, .ref a30, .ref a31, .ref a32, .int 0])), (a18, .inr (3, [.ref a33, .ref a34, .ref a35, .ref a36, .int 0])), (a2, .inr (2, [.ref a37, .ref a38, .int 0, .int 0, .int 0, .int 0, .int 0, .int (-1)])), (a37, .inr (5, [.ref a39, .int 0, .int 0, .int 0, .int 0, .long 0, .int 0])), (a40, .inr (10, [.ref a41, .ref a42, .int 0, .int 0, .int 0, .int (-1), .int 0, .int 0, .int 0, .int 0, .long 0, .ref a43, .ref a44, .ref a45, .ref a46, .ref a47, .ref a48, .ref a49, .ref a50, .ref a51, .ref a52, .ref a53, .ref a54, .ref a55, .ref a56, .ref a57, .ref a58, .ref a59, .ref a60, .ref a61, .ref a62, .ref a63, .ref a64, .ref a65, .ref a66, .ref a67, .ref a68, .ref a69, .ref a70, .ref a71, .int 0, .int 0, .ref a72, .ref a73, .int 0, .int 0, .int 0, .int 0, .ref a74, .int 0, .ref a75, .ref a76, .ref a77, .int 0, .int 0, .int 0, .int 0, .int 0, .int 0, .int 0, .int 0, .ref a78, .int 0, .ref a79, .ref a80, .ref a81, .ref a82, .int 0, .int 0])), (a52, .inl (cI, 2, .inl (fun _ => 0))), (a59, .inl (cI, 2, .inl (fun _ => 0))), (a60, .inl (cI, 2, .inl (fun _ => 0)))]) (hS : va_S A s.heap H locs) (hl : lv_has ls 4 [(3, .int 0), (2, .ref a40), (1, .ref a0), (0, .ref b)]) : W p l e room_1 s m #[Value.ref b] below meth c H locs 1000 1000000 (lw_Z below #[Value.ref b] s) (F0 m 1405 ls []) := by
  obtain ⟨hx, hb, hml, hown, hts⟩ := id hC
  refine lv_aload_n hx hb dL_law_1405 rfl (lv_at hl 2 rfl) ?_
  refine lv_aload_n hx hb dL_law_1406 rfl (lv_at hl 3 rfl) ?_
  refine lv_iload_n hx hb dL_law_1407 rfl (lv_at hl 0 rfl) ?_
  refine lv_iconst (v := 1) hx hb dL_law_1408 (by decide) ?_
  refine lv_iadd hx hb dL_law_1409 ?_
  refine k_i 1 (by decide +kernel) ?_
  refine va_sld hx hb hX hbl hbA hS (i := 1) (k_in (k := 1) (by decide +kernel) (by decide)) dL_law_1410 ?_
  refine k_i (xs 1) (congrArg xs (by decide +kernel)) ?_
  refine k_ci (wr := [(a40, .inr (10, [.ref a41, .ref a42, .int 0, .int 0, .int 0, .int (-1), .int 0, .int 0, .int 0, .int 0, .long 0, .ref a43, .ref a44, .ref a45, .ref a46, .ref a47, .ref a48, .ref a49, .ref a50, .ref a51, .ref a52, .ref a53, .ref a54, .ref a55, .ref a56, .ref a57, .ref a58, .ref a59, .ref a60, .ref a61, .ref a62, .ref a63, .ref a64, .ref a65, .ref a66, .ref a67, .ref a68, .ref a69, .ref a70, .ref a71, .int 0, .int 0, .ref a72, .ref a73, .int 0, .int 0, .int 0, .int 0, .ref a74, .int 0, .ref a75, .ref a76, .ref a77, .int 0, .int 0, .int 0, .int 0, .int 0, .int 0, .int 0, .int 0, .ref a78, .int 0, .ref a79, .ref a80, .ref a81, .ref a82, .int 0, .int 0])), (a52, .inl (cI, 2, .inl (fun _ => 0))), (a59, .inl (cI, 2, .inl (fun _ => 0))), (a60, .inl (cI, 2, .inl (fun _ => 0)))]) (k_rV hC hN hK hP hD (c125_X9_about l G cI cJ cB cZ a0 a1 a2 a3 a4 a5 a6 a7 a8 a9 a10 a11 a12 a13 a14 a15 a16 a17 a18 a19 a20 a21 a22 a23 a24 a25 a26 a27 a28 a29 a30 a31 a32 a33 a34 a35 a36 a37 a38 a39 (xs 1)) [0, 1, 2, 3, 4, 5, 6] rfl (by decide) mi_X9_about in_X9_about se_X9_about wm_L_141 9 0 rfl rfl rfl hl.1 rfl rfl (Nat.le_of_ble_eq_true rfl) ⟨(Nat.le_of_ble_eq_true rfl), (Nat.le_of_ble_eq_true rfl)⟩ dL_law_1411 ⟨(Nat.le_of_ble_eq_true rfl), (Nat.le_of_ble_eq_true rfl)⟩) hP hD hS hA [0, 1, 2, 3, 4, 5, 6] [7, 8, 9, 10] rfl rfl (by decide) (by decide) (fun r1 u1 H locs hp hP hD hS => ?_)
  have hP : va_P G cl [(a40, .inr (10, [.ref a41, .ref a42, .int 0, .int 0, .int 0, .int (-1), .int 0, .int 0, .int 0, .int 0, .long 0, .ref a43, .ref a44, .ref a45, .ref a46, .ref a47, .ref a48, .ref a49, .ref a50, .ref a51, .ref a52, .ref a53, .ref a54, .ref a55, .ref a56, .ref a57, .ref a58, .ref a59, .ref a60, .ref a61, .ref a62, .ref a63, .ref a64, .ref a65, .ref a66, .ref a67, .ref a68, .ref a69, .ref a70, .ref a71, .int 0, .int 0, .ref a72, .ref a73, .int 0, .int 0, .int 0, .int 0, .ref a74, .int 0, .ref a75, .ref a76, .ref a77, .int 0, .int 0, .int 0, .int 0, .int 0, .int 0, .int 0, .int 0, .ref a78, .int 0, .ref a79, .ref a80, .ref a81, .ref a82, .int 0, .int 0])), (a52, .inl (cI, 2, .inl (fun _ => 0))), (a59, .inl (cI, 2, .inl (fun _ => 0))), (a60, .inl (cI, 2, .inl (fun _ => 0)))] H := hP
  have hD : va_D A [(a40, .inr (10, [.ref a41, .ref a42, .int 0, .int 0, .int 0, .int (-1), .int 0, .int 0, .int 0, .int 0, .long 0, .ref a43, .ref a44, .ref a45, .ref a46, .ref a47, .ref a48, .ref a49, .ref a50, .ref a51, .ref a52, .ref a53, .ref a54, .ref a55, .ref a56, .ref a57, .ref a58, .ref a59, .ref a60, .ref a61, .ref a62, .ref a63, .ref a64, .ref a65, .ref a66, .ref a67, .ref a68, .ref a69, .ref a70, .ref a71, .int 0, .int 0, .ref a72, .ref a73, .int 0, .int 0, .int 0, .int 0, .ref a74, .int 0, .ref a75, .ref a76, .ref a77, .int 0, .int 0, .int 0, .int 0, .int 0, .int 0, .int 0, .int 0, .ref a78, .int 0, .ref a79, .ref a80, .ref a81, .ref a82, .int 0, .int 0])), (a52, .inl (cI, 2, .inl (fun _ => 0))), (a59, .inl (cI, 2, .inl (fun _ => 0))), (a60, .inl (cI, 2, .inl (fun _ => 0)))] := hD
  have hp1 := hp
  refine lv_aload_n hx hb dL_law_1414 rfl (lv_at hl 1 rfl) ?_
  refine lv_aload_n hx hb dL_law_1415 rfl (lv_at hl 3 rfl) ?_
  refine lv_iload_n hx hb dL_law_1416 rfl (lv_at hl 0 rfl) ?_
  refine lv_iconst (v := 1) hx hb dL_law_1417 (by decide) ?_
  refine lv_iadd hx hb dL_law_1418 ?_
  refine k_i 1 (by decide +kernel) ?_
  refine va_sld hx hb hX hbl hbA hS (i := 1) (k_in (k := 1) (by decide +kernel) (by decide)) dL_law_1419 ?_
  refine k_i (xs 1) (congrArg xs (by decide +kernel)) ?_
  refine k_ci (wr := []) (k_rV hC hN hK hP hD (c228_X10_about l G cI cJ cB cZ a40 a41 a42 a43 a44 a45 a46 a47 a48 a49 a50 a51 a52 a53 a54 a55 a56 a57 a58 a59 a60 a61 a62 a63 a64 a65 a66 a67 a68 a69 a70 a71 a72 a73 a74 a75 a76 a77 a78 a79 a80 a81 a82 (xs 1)) [0, 1, 2, 3] rfl (by decide) mi_X10_about in_X10_about se_X10_about wm_L_144 10 0 rfl rfl rfl hl.1 rfl rfl (Nat.le_of_ble_eq_true rfl) ⟨(Nat.le_of_ble_eq_true rfl), (Nat.le_of_ble_eq_true rfl)⟩ dL_law_1420 ⟨(Nat.le_of_ble_eq_true rfl), (Nat.le_of_ble_eq_true rfl)⟩) hP hD hS hA [0, 1, 2, 3] [] rfl rfl (by decide) (by decide) (fun r2 u2 H locs hp hP hD hS => ?_)
  have hP : va_P G cl [] H := hP
  have hD : va_D A [] := hD
  have hp2 := hp
  refine lv_icmp_eq (tgt := 1428) hx hb dL_law_1423 (by decide) (fun _ => ?_) (fun c_ => absurd (hp1.trans hp2.symm) c_)
  exact law_tail hC hr hlk hX hbl hbA hfo hS hl (Nat.le_of_ble_eq_true rfl) (Nat.le_of_ble_eq_true rfl)

theorem dX6_init_139 : decode cX6_init 139 = .ok (.iload_n 1, 1) := by decide +kernel
theorem dX6_init_140 : decode cX6_init 140 = .ok (.sipush 729, 3) := by decide +kernel
theorem dX6_init_143 : decode cX6_init 143 = .ok (.if_icmp .ge 78, 3) := by decide +kernel
theorem dX6_init_146 : decode cX6_init 146 = .ok (.iload_n 1, 1) := by decide +kernel
theorem dX6_init_147 : decode cX6_init 147 = .ok (.istore_n 2, 1) := by decide +kernel
theorem dX6_init_148 : decode cX6_init 148 = .ok (.iconst 0, 1) := by decide +kernel
theorem dX6_init_149 : decode cX6_init 149 = .ok (.istore_n 3, 1) := by decide +kernel
theorem dX6_init_150 : decode cX6_init 150 = .ok (.iload_n 3, 1) := by decide +kernel
theorem dX6_init_151 : decode cX6_init 151 = .ok (.bipush 6, 2) := by decide +kernel
theorem dX6_init_153 : decode cX6_init 153 = .ok (.if_icmp .ge 62, 3) := by decide +kernel
theorem dX6_init_156 : decode cX6_init 156 = .ok (.iload_n 2, 1) := by decide +kernel
theorem dX6_init_157 : decode cX6_init 157 = .ok (.iconst 3, 1) := by decide +kernel
theorem dX6_init_158 : decode cX6_init 158 = .ok (.irem, 1) := by decide +kernel
theorem dX6_init_159 : decode cX6_init 159 = .ok (.istore 4, 2) := by decide +kernel
theorem dX6_init_161 : decode cX6_init 161 = .ok (.aload_n 0, 1) := by decide +kernel
theorem dX6_init_162 : decode cX6_init 162 = .ok (.getfield 11, 3) := by decide +kernel
theorem dX6_init_165 : decode cX6_init 165 = .ok (.iload_n 1, 1) := by decide +kernel
theorem dX6_init_166 : decode cX6_init 166 = .ok (.dup2, 1) := by decide +kernel
theorem dX6_init_167 : decode cX6_init 167 = .ok (.iaload, 1) := by decide +kernel
theorem dX6_init_168 : decode cX6_init 168 = .ok (.iload 4, 2) := by decide +kernel
theorem dX6_init_170 : decode cX6_init 170 = .ok (.iconst 1, 1) := by decide +kernel
theorem dX6_init_171 : decode cX6_init 171 = .ok (.if_icmp .ne 9, 3) := by decide +kernel
theorem dX6_init_174 : decode cX6_init 174 = .ok (.iconst 1, 1) := by decide +kernel
theorem dX6_init_175 : decode cX6_init 175 = .ok (.iload_n 3, 1) := by decide +kernel
theorem dX6_init_176 : decode cX6_init 176 = .ok (.ishl, 1) := by decide +kernel
theorem dX6_init_177 : decode cX6_init 177 = .ok (.goto 4, 3) := by decide +kernel
theorem dX6_init_180 : decode cX6_init 180 = .ok (.iconst 0, 1) := by decide +kernel
theorem dX6_init_181 : decode cX6_init 181 = .ok (.ior, 1) := by decide +kernel
theorem dX6_init_182 : decode cX6_init 182 = .ok (.iastore, 1) := by decide +kernel
theorem dX6_init_183 : decode cX6_init 183 = .ok (.aload_n 0, 1) := by decide +kernel
theorem dX6_init_184 : decode cX6_init 184 = .ok (.getfield 15, 3) := by decide +kernel
theorem dX6_init_187 : decode cX6_init 187 = .ok (.iload_n 1, 1) := by decide +kernel
theorem dX6_init_188 : decode cX6_init 188 = .ok (.dup2, 1) := by decide +kernel
theorem dX6_init_189 : decode cX6_init 189 = .ok (.iaload, 1) := by decide +kernel
theorem dX6_init_190 : decode cX6_init 190 = .ok (.iload 4, 2) := by decide +kernel
theorem dX6_init_192 : decode cX6_init 192 = .ok (.iconst 2, 1) := by decide +kernel
theorem dX6_init_193 : decode cX6_init 193 = .ok (.if_icmp .ne 9, 3) := by decide +kernel
theorem dX6_init_196 : decode cX6_init 196 = .ok (.iconst 1, 1) := by decide +kernel
theorem dX6_init_197 : decode cX6_init 197 = .ok (.iload_n 3, 1) := by decide +kernel
theorem dX6_init_198 : decode cX6_init 198 = .ok (.ishl, 1) := by decide +kernel
theorem dX6_init_199 : decode cX6_init 199 = .ok (.goto 4, 3) := by decide +kernel
theorem dX6_init_202 : decode cX6_init 202 = .ok (.iconst 0, 1) := by decide +kernel
theorem dX6_init_203 : decode cX6_init 203 = .ok (.ior, 1) := by decide +kernel
theorem dX6_init_204 : decode cX6_init 204 = .ok (.iastore, 1) := by decide +kernel
theorem dX6_init_205 : decode cX6_init 205 = .ok (.iload_n 2, 1) := by decide +kernel
theorem dX6_init_206 : decode cX6_init 206 = .ok (.iconst 3, 1) := by decide +kernel
theorem dX6_init_207 : decode cX6_init 207 = .ok (.idiv, 1) := by decide +kernel
theorem dX6_init_208 : decode cX6_init 208 = .ok (.istore_n 2, 1) := by decide +kernel
theorem dX6_init_209 : decode cX6_init 209 = .ok (.iinc 3 1, 3) := by decide +kernel
theorem dX6_init_212 : decode cX6_init 212 = .ok (.goto (-62), 3) := by decide +kernel
theorem dX6_init_215 : decode cX6_init 215 = .ok (.iinc 1 1, 3) := by decide +kernel
theorem dX6_init_218 : decode cX6_init 218 = .ok (.goto (-79), 3) := by decide +kernel
theorem dX6_init_221 : decode cX6_init 221 = .ok (.return_, 1) := by decide +kernel

def okLR (f : Nat → Int32) : Prop := ∀ j, f j &&& 63 = f j
theorem and63_or {a b : Int32} (ha : a &&& 63 = a) (hb : b &&& 63 = b) : (a ||| b) &&& 63 = a ||| b := by
  have h : (a ||| b) &&& 63 = (a &&& 63) ||| (b &&& 63) := by
    apply Int32.toBitVec_inj.mp
    simp only [Int32.toBitVec_and, Int32.toBitVec_or]
    ext i hi
    simp [Bool.and_or_distrib_right]
  rw [h, ha, hb]
theorem okLR_upd {f : Nat → Int32} {i : Nat} {v : Int32} (hf : okLR f) (hv : v &&& 63 = v) : okLR (upd f i (f i ||| v)) := by
  intro j
  by_cases h : j = i
  · subst h; rw [pk_us]; exact and63_or (hf j) hv
  · rw [pk_un h]; exact hf j
theorem sh63 {j : Nat} (h : j < 6) : ((1 : Int32) <<< (nI j &&& 31)) &&& 63 = (1 : Int32) <<< (nI j &&& 31) := by
  rcases (show j = 0 ∨ j = 1 ∨ j = 2 ∨ j = 3 ∨ j = 4 ∨ j = 5 by omega) with rfl | rfl | rfl | rfl | rfl | rfl <;> decide +kernel
abbrev trW (cI cJ : ClassId) (a0 : Nat) (o : Nat → Nat) (f g : Nat → Int32) : va_W := [(a0, .inr (6, [.ref (o 0), .ref (o 1), .ref (o 2), .int 0, .ref (o 3), .ref (o 4), .int (-1), .int (-1), .int (-1), .ref (o 5), .int 0, .ref (o 6), .ref (o 7), .ref (o 8), .ref (o 9), .int 0, .int (-1), .int (-1), .int (-1), .int (-1)])), (o 0, .inl (cI, 729, .inl f)), (o 1, .inl (cI, 729, .inl g)), (o 2, .inl (cI, 729, .inl (fun _ => 0))), (o 3, .inl (cI, 2187, .inl (fun _ => 0))), (o 4, .inl (cI, 64, .inl (fun _ => 0))), (o 5, .inl (cI, 240, .inl (fun _ => 0))), (o 6, .inl (cJ, 2160, .inr (.inl (fun _ => 0)))), (o 7, .inl (cJ, 3, .inr (.inl (fun _ => 0)))), (o 8, .inl (cJ, 3, .inr (.inl (fun _ => 0)))), (o 9, .inl (cJ, 3, .inr (.inl (fun _ => 0))))]
section TR
variable {p : Program} {l : Launch} {e : Env} {R : Room} {s : State} {m : MethodId} {args : Array Value} {below : List Frame} {meth : Method} {c : Code} {cells slots : Nat} {Q : State → Prop} {G : va_G} {cI cJ cB cZ : ClassId} {A : Nat → Prop} {a0 : Nat} {o : Nat → Nat}
set_option maxHeartbeats 4000000 in
set_option maxRecDepth 100000 in
theorem tr_inner (hC : CallFix p m c cX6_init 5 s args gw RX6) (hK : va_K G cl (TY cI cJ cB cZ) s) {i : Nat} (hi : i < 729)
    (hex : ∀ (f g : Nat → Int32) (H : Heap) (locs : List Loc) (ls : Array Slot), okLR f → okLR g → va_P G cl (trW cI cJ a0 o f g) H → va_D A (trW cI cJ a0 o f g) → va_S A s.heap H locs → lv_has ls 5 [(1, .int (nI i)), (0, .ref a0)] → W p l e R s m args below meth c H locs cells slots Q (F0 m 215 ls [])) :
    ∀ (n j : Nat) (rest : Int32) (f g : Nat → Int32) (H : Heap) (locs : List Loc) (ls : Array Slot), j ≤ 6 → 6 - j < n → okLR f → okLR g → va_P G cl (trW cI cJ a0 o f g) H → va_D A (trW cI cJ a0 o f g) → va_S A s.heap H locs → lv_has ls 5 [(3, .int (nI j)), (2, .int rest), (1, .int (nI i)), (0, .ref a0)] → W p l e R s m args below meth c H locs cells slots Q (F0 m 150 ls []) := by
  intro n
  induction n with
  | zero => intro j rest f g H locs ls h1 h2; omega
  | succ n ih =>
    intro j rest f g H locs ls hj hn hf hg hP hD hS hl
    obtain ⟨hx, hb, hml, hown, hts⟩ := id hC
    have hti : (nI i).toInt = (i : Int) := nI_toInt (by omega)
    refine lv_iload_n hx hb dX6_init_150 rfl (lv_at hl 0 rfl) ?_
    refine lv_bipush (v := 6) hx hb dX6_init_151 (by decide) ?_
    refine lv_icmp_ge (tgt := 215) hx hb dX6_init_153 (by decide) (fun _ => ?_) (fun c_1 => ?_)
    · exact hex f g H locs ls hf hg hP hD hS (lv_sub hl [2, 3] rfl)
    have hj6 : j < 6 := by
      rcases Nat.lt_or_ge j 6 with q | q
      · exact q
      · exact absurd (show (6 : Int32) ≤ nI j from nI_le (a := 6) q (by omega)) c_1
    refine lv_iload_n hx hb dX6_init_156 rfl (lv_at hl 1 rfl) ?_
    refine lv_iconst (v := 3) hx hb dX6_init_157 (by decide) ?_
    refine lv_irem hx hb dX6_init_158 (by decide) ?_
    refine lv_topi (fun t _ => ?_)
    refine lv_istore (lv' := [(4, .int t), (3, .int (nI j)), (2, .int rest), (1, .int (nI i)), (0, .ref a0)]) hx hb dX6_init_159 hl (by decide) rfl (fun ls hl => ?_)
    refine lv_aload_n hx hb dX6_init_161 rfl (lv_at hl 4 rfl) ?_
    refine k_get hC hK hP iX6 0 0 wf_X6_11 rfl (by decide) rfl rfl dX6_init_162 ?_
    refine lv_iload_n hx hb dX6_init_165 rfl (lv_at hl 3 rfl) ?_
    refine lv_dup2_11 hx hb dX6_init_166 rfl rfl ?_
    refine k_iald (v := f i) hC hK hP 1 i rfl hti hi rfl dX6_init_167 ?_
    refine lv_iload hx hb dX6_init_168 (lv_at hl 0 rfl) ?_
    refine lv_iconst (v := 1) hx hb dX6_init_170 (by decide) ?_
    have key2 : ∀ (v w : Int32), v &&& 63 = v → w &&& 63 = w → ∀ (H : Heap) (locs : List Loc), va_P G cl (trW cI cJ a0 o (upd f i (f i ||| v)) g) H → va_D A (trW cI cJ a0 o (upd f i (f i ||| v)) g) → va_S A s.heap H locs → W p l e R s m args below meth c H locs cells slots Q (F0 m 203 ls (.int w :: .int (g i) :: .int (nI i) :: .ref (o 1) :: [])) := by
      intro v w hv hw H locs hP hD hS
      refine lv_ior hx hb dX6_init_203 ?_
      refine k_iast hC hK hP hD hS 2 i rfl hti hi dX6_init_204 (fun H locs hP hD hS => ?_)
      refine lv_iload_n hx hb dX6_init_205 rfl (lv_at hl 2 rfl) ?_
      refine lv_iconst (v := 3) hx hb dX6_init_206 (by decide) ?_
      refine lv_idiv hx hb dX6_init_207 (by decide) ?_
      refine lv_topi (fun t2 _ => ?_)
      refine lv_istore_n (lv' := [(2, .int t2), (4, .int t), (3, .int (nI j)), (1, .int (nI i)), (0, .ref a0)]) hx hb dX6_init_208 rfl hl (by decide) rfl (fun ls hl => ?_)
      refine lv_iinc (v := nI (j + 1)) (lv' := [(3, .int (nI (j + 1))), (2, .int t2), (4, .int t), (1, .int (nI i)), (0, .ref a0)]) hx hb dX6_init_209 hl (k := 2) rfl (nI_1 j) (by decide) rfl (fun ls hl => ?_)
      refine lv_goto (tgt := 150) hx hb dX6_init_212 (by decide) ?_
      exact ih (j + 1) t2 (upd f i (f i ||| v)) (upd g i (g i ||| w)) H locs ls (by omega) (by omega) (okLR_upd hf hv) (okLR_upd hg hw) hP hD hS (lv_sub hl [0, 1, 3, 4] rfl)
    have key1 : ∀ v : Int32, v &&& 63 = v → W p l e R s m args below meth c H locs cells slots Q (F0 m 181 ls (.int v :: .int (f i) :: .int (nI i) :: .ref (o 0) :: [])) := by
      intro v hv
      refine lv_ior hx hb dX6_init_181 ?_
      refine k_iast hC hK hP hD hS 1 i rfl hti hi dX6_init_182 (fun H locs hP hD hS => ?_)
      refine lv_aload_n hx hb dX6_init_183 rfl (lv_at hl 4 rfl) ?_
      refine k_get hC hK hP iX6 0 1 wf_X6_15 rfl (by decide) rfl rfl dX6_init_184 ?_
      refine lv_iload_n hx hb dX6_init_187 rfl (lv_at hl 3 rfl) ?_
      refine lv_dup2_11 hx hb dX6_init_188 rfl rfl ?_
      refine k_iald (v := g i) hC hK hP 2 i rfl hti hi rfl dX6_init_189 ?_
      refine lv_iload hx hb dX6_init_190 (lv_at hl 0 rfl) ?_
      refine lv_iconst (v := 2) hx hb dX6_init_192 (by decide) ?_
      refine lv_icmp_ne (tgt := 202) hx hb dX6_init_193 (by decide) (fun _ => ?_) (fun _ => ?_)
      · refine lv_iconst (v := 0) hx hb dX6_init_202 (by decide) ?_
        exact key2 v 0 hv (by decide) H locs hP hD hS
      · refine lv_iconst (v := 1) hx hb dX6_init_196 (by decide) ?_
        refine lv_iload_n hx hb dX6_init_197 rfl (lv_at hl 1 rfl) ?_
        refine lv_ishl hx hb dX6_init_198 ?_
        refine lv_goto (tgt := 203) hx hb dX6_init_199 (by decide) ?_
        exact key2 v _ hv (sh63 hj6) H locs hP hD hS
    refine lv_icmp_ne (tgt := 180) hx hb dX6_init_171 (by decide) (fun _ => ?_) (fun _ => ?_)
    · refine lv_iconst (v := 0) hx hb dX6_init_180 (by decide) ?_
      exact key1 0 (by decide)
    · refine lv_iconst (v := 1) hx hb dX6_init_174 (by decide) ?_
      refine lv_iload_n hx hb dX6_init_175 rfl (lv_at hl 1 rfl) ?_
      refine lv_ishl hx hb dX6_init_176 ?_
      refine lv_goto (tgt := 181) hx hb dX6_init_177 (by decide) ?_
      exact key1 _ (sh63 hj6)
set_option maxHeartbeats 4000000 in
set_option maxRecDepth 100000 in
theorem tr_outer (hC : CallFix p m c cX6_init 5 s args gw RX6) (hK : va_K G cl (TY cI cJ cB cZ) s)
    (hex : ∀ (f g : Nat → Int32) (H : Heap) (locs : List Loc) (ls : Array Slot), okLR f → okLR g → va_P G cl (trW cI cJ a0 o f g) H → va_D A (trW cI cJ a0 o f g) → va_S A s.heap H locs → W p l e R s m args below meth c H locs cells slots Q (F0 m 221 ls [])) :
    ∀ (n i : Nat) (f g : Nat → Int32) (H : Heap) (locs : List Loc) (ls : Array Slot), i ≤ 729 → 729 - i < n → okLR f → okLR g → va_P G cl (trW cI cJ a0 o f g) H → va_D A (trW cI cJ a0 o f g) → va_S A s.heap H locs → lv_has ls 5 [(1, .int (nI i)), (0, .ref a0)] → W p l e R s m args below meth c H locs cells slots Q (F0 m 139 ls []) := by
  intro n
  induction n with
  | zero => intro i f g H locs ls h1 h2; omega
  | succ n ih =>
    intro i f g H locs ls hi hn hf hg hP hD hS hl
    obtain ⟨hx, hb, hml, hown, hts⟩ := id hC
    refine lv_iload_n hx hb dX6_init_139 rfl (lv_at hl 0 rfl) ?_
    refine lv_sipush (v := 729) hx hb dX6_init_140 (by decide) ?_
    refine lv_icmp_ge (tgt := 221) hx hb dX6_init_143 (by decide) (fun _ => ?_) (fun c_1 => ?_)
    · exact hex f g H locs ls hf hg hP hD hS
    have hi7 : i < 729 := by
      rcases Nat.lt_or_ge i 729 with q | q
      · exact q
      · exact absurd (show (729 : Int32) ≤ nI i from nI_le (a := 729) q (by omega)) c_1
    refine lv_iload_n hx hb dX6_init_146 rfl (lv_at hl 0 rfl) ?_
    refine lv_istore_n (lv' := [(2, .int (nI i)), (1, .int (nI i)), (0, .ref a0)]) hx hb dX6_init_147 rfl hl (by decide) rfl (fun ls hl => ?_)
    refine lv_iconst (v := 0) hx hb dX6_init_148 (by decide) ?_
    refine lv_istore_n (lv' := [(3, .int 0), (2, .int (nI i)), (1, .int (nI i)), (0, .ref a0)]) hx hb dX6_init_149 rfl hl (by decide) rfl (fun ls hl => ?_)
    refine tr_inner (i := i) hC hK hi7 (fun f g H locs ls hf hg hP hD hS hl => ?_) 7 0 (nI i) f g H locs ls (by omega) (by omega) hf hg hP hD hS hl
    refine lv_iinc (v := nI (i + 1)) (lv' := [(1, .int (nI (i + 1))), (0, .ref a0)]) hx hb dX6_init_215 hl (k := 0) rfl (nI_1 i) (by decide) rfl (fun ls hl => ?_)
    refine lv_goto (tgt := 139) hx hb dX6_init_218 (by decide) ?_
    exact ih (i + 1) f g H locs ls (by omega) (by omega) hf hg hP hD hS hl
end TR
theorem dX6_init_0 : decode cX6_init 0 = .ok (.aload_n 0, 1) := by decide +kernel
theorem dX6_init_1 : decode cX6_init 1 = .ok (.invokespecial 3, 3) := by decide +kernel
set_option maxRecDepth 100000 in
theorem wm_X6_3 : Cond.methodLink RX6 3 Lib.objectInit ∈ gw := gm (List.mem_of_getElem? (i := 451) (by decide +kernel)) rfl
set_option maxRecDepth 100000 in
theorem in_OBJ : Cond.instanceMethod Lib.objectInit ∈ gw := gm (List.mem_of_getElem? (i := 133) (by decide +kernel)) rfl
set_option maxRecDepth 100000 in
theorem co_OBJ : Cond.code Lib.objectInit ⟨#[0xb1]⟩ 1 none ∈ gw := gm (List.mem_of_getElem? (i := 134) (by decide +kernel)) rfl
theorem dX6_init_4 : decode cX6_init 4 = .ok (.aload_n 0, 1) := by decide +kernel
theorem dX6_init_5 : decode cX6_init 5 = .ok (.sipush 729, 3) := by decide +kernel
theorem dX6_init_8 : decode cX6_init 8 = .ok (.newarray .int, 2) := by decide +kernel
set_option maxRecDepth 100000 in
theorem warr_I : Cond.arrayClass .int ∈ gw := gm (List.mem_of_getElem? (i := 185) (by decide +kernel)) rfl
theorem dX6_init_10 : decode cX6_init 10 = .ok (.putfield 11, 3) := by decide +kernel
theorem dX6_init_13 : decode cX6_init 13 = .ok (.aload_n 0, 1) := by decide +kernel
theorem dX6_init_14 : decode cX6_init 14 = .ok (.sipush 729, 3) := by decide +kernel
theorem dX6_init_17 : decode cX6_init 17 = .ok (.newarray .int, 2) := by decide +kernel
theorem dX6_init_19 : decode cX6_init 19 = .ok (.putfield 15, 3) := by decide +kernel
theorem dX6_init_22 : decode cX6_init 22 = .ok (.aload_n 0, 1) := by decide +kernel
theorem dX6_init_23 : decode cX6_init 23 = .ok (.sipush 729, 3) := by decide +kernel
theorem dX6_init_26 : decode cX6_init 26 = .ok (.newarray .int, 2) := by decide +kernel
theorem dX6_init_28 : decode cX6_init 28 = .ok (.putfield 18, 3) := by decide +kernel
theorem dX6_init_31 : decode cX6_init 31 = .ok (.aload_n 0, 1) := by decide +kernel
theorem dX6_init_32 : decode cX6_init 32 = .ok (.iconst 0, 1) := by decide +kernel
theorem dX6_init_33 : decode cX6_init 33 = .ok (.putfield 21, 3) := by decide +kernel
theorem dX6_init_36 : decode cX6_init 36 = .ok (.aload_n 0, 1) := by decide +kernel
theorem dX6_init_37 : decode cX6_init 37 = .ok (.sipush 2187, 3) := by decide +kernel
theorem dX6_init_40 : decode cX6_init 40 = .ok (.newarray .int, 2) := by decide +kernel
theorem dX6_init_42 : decode cX6_init 42 = .ok (.putfield 25, 3) := by decide +kernel
theorem dX6_init_45 : decode cX6_init 45 = .ok (.aload_n 0, 1) := by decide +kernel
theorem dX6_init_46 : decode cX6_init 46 = .ok (.bipush 64, 2) := by decide +kernel
theorem dX6_init_48 : decode cX6_init 48 = .ok (.newarray .int, 2) := by decide +kernel
theorem dX6_init_50 : decode cX6_init 50 = .ok (.putfield 28, 3) := by decide +kernel
theorem dX6_init_53 : decode cX6_init 53 = .ok (.aload_n 0, 1) := by decide +kernel
theorem dX6_init_54 : decode cX6_init 54 = .ok (.iconst (-1), 1) := by decide +kernel
theorem dX6_init_55 : decode cX6_init 55 = .ok (.putfield 31, 3) := by decide +kernel
theorem dX6_init_58 : decode cX6_init 58 = .ok (.aload_n 0, 1) := by decide +kernel
theorem dX6_init_59 : decode cX6_init 59 = .ok (.iconst (-1), 1) := by decide +kernel
theorem dX6_init_60 : decode cX6_init 60 = .ok (.putfield 34, 3) := by decide +kernel
theorem dX6_init_63 : decode cX6_init 63 = .ok (.aload_n 0, 1) := by decide +kernel
theorem dX6_init_64 : decode cX6_init 64 = .ok (.iconst (-1), 1) := by decide +kernel
theorem dX6_init_65 : decode cX6_init 65 = .ok (.putfield 37, 3) := by decide +kernel
theorem dX6_init_68 : decode cX6_init 68 = .ok (.aload_n 0, 1) := by decide +kernel
theorem dX6_init_69 : decode cX6_init 69 = .ok (.sipush 240, 3) := by decide +kernel
theorem dX6_init_72 : decode cX6_init 72 = .ok (.newarray .int, 2) := by decide +kernel
theorem dX6_init_74 : decode cX6_init 74 = .ok (.putfield 40, 3) := by decide +kernel
theorem dX6_init_77 : decode cX6_init 77 = .ok (.aload_n 0, 1) := by decide +kernel
theorem dX6_init_78 : decode cX6_init 78 = .ok (.iconst 0, 1) := by decide +kernel
theorem dX6_init_79 : decode cX6_init 79 = .ok (.putfield 43, 3) := by decide +kernel
theorem dX6_init_82 : decode cX6_init 82 = .ok (.aload_n 0, 1) := by decide +kernel
theorem dX6_init_83 : decode cX6_init 83 = .ok (.sipush 2160, 3) := by decide +kernel
theorem dX6_init_86 : decode cX6_init 86 = .ok (.newarray .long, 2) := by decide +kernel
theorem dX6_init_88 : decode cX6_init 88 = .ok (.putfield 46, 3) := by decide +kernel
theorem dX6_init_91 : decode cX6_init 91 = .ok (.aload_n 0, 1) := by decide +kernel
theorem dX6_init_92 : decode cX6_init 92 = .ok (.iconst 3, 1) := by decide +kernel
theorem dX6_init_93 : decode cX6_init 93 = .ok (.newarray .long, 2) := by decide +kernel
theorem dX6_init_95 : decode cX6_init 95 = .ok (.putfield 50, 3) := by decide +kernel
theorem dX6_init_98 : decode cX6_init 98 = .ok (.aload_n 0, 1) := by decide +kernel
theorem dX6_init_99 : decode cX6_init 99 = .ok (.iconst 3, 1) := by decide +kernel
theorem dX6_init_100 : decode cX6_init 100 = .ok (.newarray .long, 2) := by decide +kernel
theorem dX6_init_102 : decode cX6_init 102 = .ok (.putfield 53, 3) := by decide +kernel
theorem dX6_init_105 : decode cX6_init 105 = .ok (.aload_n 0, 1) := by decide +kernel
theorem dX6_init_106 : decode cX6_init 106 = .ok (.iconst 3, 1) := by decide +kernel
theorem dX6_init_107 : decode cX6_init 107 = .ok (.newarray .long, 2) := by decide +kernel
theorem dX6_init_109 : decode cX6_init 109 = .ok (.putfield 56, 3) := by decide +kernel
theorem dX6_init_112 : decode cX6_init 112 = .ok (.aload_n 0, 1) := by decide +kernel
theorem dX6_init_113 : decode cX6_init 113 = .ok (.iconst 0, 1) := by decide +kernel
theorem dX6_init_114 : decode cX6_init 114 = .ok (.putfield 59, 3) := by decide +kernel
theorem dX6_init_117 : decode cX6_init 117 = .ok (.aload_n 0, 1) := by decide +kernel
theorem dX6_init_118 : decode cX6_init 118 = .ok (.iconst (-1), 1) := by decide +kernel
theorem dX6_init_119 : decode cX6_init 119 = .ok (.putfield 62, 3) := by decide +kernel
theorem dX6_init_122 : decode cX6_init 122 = .ok (.aload_n 0, 1) := by decide +kernel
theorem dX6_init_123 : decode cX6_init 123 = .ok (.iconst (-1), 1) := by decide +kernel
theorem dX6_init_124 : decode cX6_init 124 = .ok (.putfield 65, 3) := by decide +kernel
theorem dX6_init_127 : decode cX6_init 127 = .ok (.aload_n 0, 1) := by decide +kernel
theorem dX6_init_128 : decode cX6_init 128 = .ok (.iconst (-1), 1) := by decide +kernel
theorem dX6_init_129 : decode cX6_init 129 = .ok (.putfield 68, 3) := by decide +kernel
theorem dX6_init_132 : decode cX6_init 132 = .ok (.aload_n 0, 1) := by decide +kernel
theorem dX6_init_133 : decode cX6_init 133 = .ok (.iconst (-1), 1) := by decide +kernel
theorem dX6_init_134 : decode cX6_init 134 = .ok (.putfield 71, 3) := by decide +kernel
theorem dX6_init_137 : decode cX6_init 137 = .ok (.iconst 0, 1) := by decide +kernel
theorem dX6_init_138 : decode cX6_init 138 = .ok (.istore_n 1, 1) := by decide +kernel
set_option maxHeartbeats 4000000 in
set_option maxRecDepth 100000 in
theorem cH_X6_init (l : Launch) (G : va_G) (cI cJ cB cZ : ClassId) (a0 : Nat) : Con l G (TY cI cJ cB cZ) yX6_init cX6_init 5 none ({ frames := 1, cells := 10, slots := 6847, locals := 20 } : Room) [.ref a0] [(a0, .inr (6, [.null, .null, .null, .int 0, .null, .null, .int 0, .int 0, .int 0, .null, .int 0, .null, .null, .null, .null, .int 0, .int 0, .int 0, .int 0, .int 0]))] (QV G (TY cI cJ cB cZ) (fun u : (Nat → Nat) × (Nat → Int32) × (Nat → Int32) => okLR u.2.1 ∧ okLR u.2.2) (fun u : (Nat → Nat) × (Nat → Int32) × (Nat → Int32) => trW cI cJ a0 u.1 u.2.1 u.2.2)) := by
  refine k_met (by decide) (Nat.le_of_ble_eq_true rfl) ?_
  intro p e s m below meth c A ls hC hr hlk hnm hN hZ hK hA hP hD hS hl
  have hl : lv_has ls 5 [(0, .ref a0)] := hl
  obtain ⟨hx, hb, hml, hown, hts⟩ := id hC
  refine lv_aload_n hx hb dX6_init_0 rfl (lv_at hl 0 rfl) ?_
  refine k_obj hC wm_X6_3 in_OBJ co_OBJ hl.1 dX6_init_1 (Nat.le_of_ble_eq_true rfl) (Nat.le_of_ble_eq_true rfl) ?_
  refine lv_aload_n hx hb dX6_init_4 rfl (lv_at hl 0 rfl) ?_
  refine lv_sipush (v := 729) hx hb dX6_init_5 (by decide) ?_
  refine k_newa (atype := .int) (a0 := (729, .inl (fun _ => 0))) hx hb (hts _ warr_I) rfl 0 rfl (fun h => h) hK hP hD hS hA (fun _ => rfl) (by decide +kernel) (by decide +kernel) (by decide) (Nat.le_of_ble_eq_true rfl) (Nat.le_of_ble_eq_true rfl) dX6_init_8 (fun q1 H hP hD hS => ?_)
  have hP : va_P G cl [(a0, .inr (6, [.null, .null, .null, .int 0, .null, .null, .int 0, .int 0, .int 0, .null, .int 0, .null, .null, .null, .null, .int 0, .int 0, .int 0, .int 0, .int 0])), (q1, .inl (cI, 729, .inl (fun _ => 0)))] H := hP
  have hD : va_D A [(a0, .inr (6, [.null, .null, .null, .int 0, .null, .null, .int 0, .int 0, .int 0, .null, .int 0, .null, .null, .null, .null, .int 0, .int 0, .int 0, .int 0, .int 0])), (q1, .inl (cI, 729, .inl (fun _ => 0)))] := hD
  refine k_putF hC hnm hK hP hD hS iX6 tyX6_ok nmX6 0 0 wf_X6_11 rfl (by decide) rfl rfl rfl rfl rfl (Nat.le_of_ble_eq_true rfl) dX6_init_10 (fun H locs hP hD hS => ?_)
  have hP : va_P G cl [(a0, .inr (6, [.ref q1, .null, .null, .int 0, .null, .null, .int 0, .int 0, .int 0, .null, .int 0, .null, .null, .null, .null, .int 0, .int 0, .int 0, .int 0, .int 0])), (q1, .inl (cI, 729, .inl (fun _ => 0)))] H := hP
  have hD : va_D A [(a0, .inr (6, [.ref q1, .null, .null, .int 0, .null, .null, .int 0, .int 0, .int 0, .null, .int 0, .null, .null, .null, .null, .int 0, .int 0, .int 0, .int 0, .int 0])), (q1, .inl (cI, 729, .inl (fun _ => 0)))] := hD
  refine lv_aload_n hx hb dX6_init_13 rfl (lv_at hl 0 rfl) ?_
  refine lv_sipush (v := 729) hx hb dX6_init_14 (by decide) ?_
  refine k_newa (atype := .int) (a0 := (729, .inl (fun _ => 0))) hx hb (hts _ warr_I) rfl 0 rfl (fun h => h) hK hP hD hS hA (fun _ => rfl) (by decide +kernel) (by decide +kernel) (by decide) (Nat.le_of_ble_eq_true rfl) (Nat.le_of_ble_eq_true rfl) dX6_init_17 (fun q2 H hP hD hS => ?_)
  have hP : va_P G cl [(a0, .inr (6, [.ref q1, .null, .null, .int 0, .null, .null, .int 0, .int 0, .int 0, .null, .int 0, .null, .null, .null, .null, .int 0, .int 0, .int 0, .int 0, .int 0])), (q1, .inl (cI, 729, .inl (fun _ => 0))), (q2, .inl (cI, 729, .inl (fun _ => 0)))] H := hP
  have hD : va_D A [(a0, .inr (6, [.ref q1, .null, .null, .int 0, .null, .null, .int 0, .int 0, .int 0, .null, .int 0, .null, .null, .null, .null, .int 0, .int 0, .int 0, .int 0, .int 0])), (q1, .inl (cI, 729, .inl (fun _ => 0))), (q2, .inl (cI, 729, .inl (fun _ => 0)))] := hD
  refine k_putF hC hnm hK hP hD hS iX6 tyX6_ok nmX6 0 1 wf_X6_15 rfl (by decide) rfl rfl rfl rfl rfl (Nat.le_of_ble_eq_true rfl) dX6_init_19 (fun H locs hP hD hS => ?_)
  have hP : va_P G cl [(a0, .inr (6, [.ref q1, .ref q2, .null, .int 0, .null, .null, .int 0, .int 0, .int 0, .null, .int 0, .null, .null, .null, .null, .int 0, .int 0, .int 0, .int 0, .int 0])), (q1, .inl (cI, 729, .inl (fun _ => 0))), (q2, .inl (cI, 729, .inl (fun _ => 0)))] H := hP
  have hD : va_D A [(a0, .inr (6, [.ref q1, .ref q2, .null, .int 0, .null, .null, .int 0, .int 0, .int 0, .null, .int 0, .null, .null, .null, .null, .int 0, .int 0, .int 0, .int 0, .int 0])), (q1, .inl (cI, 729, .inl (fun _ => 0))), (q2, .inl (cI, 729, .inl (fun _ => 0)))] := hD
  refine lv_aload_n hx hb dX6_init_22 rfl (lv_at hl 0 rfl) ?_
  refine lv_sipush (v := 729) hx hb dX6_init_23 (by decide) ?_
  refine k_newa (atype := .int) (a0 := (729, .inl (fun _ => 0))) hx hb (hts _ warr_I) rfl 0 rfl (fun h => h) hK hP hD hS hA (fun _ => rfl) (by decide +kernel) (by decide +kernel) (by decide) (Nat.le_of_ble_eq_true rfl) (Nat.le_of_ble_eq_true rfl) dX6_init_26 (fun q3 H hP hD hS => ?_)
  have hP : va_P G cl [(a0, .inr (6, [.ref q1, .ref q2, .null, .int 0, .null, .null, .int 0, .int 0, .int 0, .null, .int 0, .null, .null, .null, .null, .int 0, .int 0, .int 0, .int 0, .int 0])), (q1, .inl (cI, 729, .inl (fun _ => 0))), (q2, .inl (cI, 729, .inl (fun _ => 0))), (q3, .inl (cI, 729, .inl (fun _ => 0)))] H := hP
  have hD : va_D A [(a0, .inr (6, [.ref q1, .ref q2, .null, .int 0, .null, .null, .int 0, .int 0, .int 0, .null, .int 0, .null, .null, .null, .null, .int 0, .int 0, .int 0, .int 0, .int 0])), (q1, .inl (cI, 729, .inl (fun _ => 0))), (q2, .inl (cI, 729, .inl (fun _ => 0))), (q3, .inl (cI, 729, .inl (fun _ => 0)))] := hD
  refine k_putF hC hnm hK hP hD hS iX6 tyX6_ok nmX6 0 2 wf_X6_18 rfl (by decide) rfl rfl rfl rfl rfl (Nat.le_of_ble_eq_true rfl) dX6_init_28 (fun H locs hP hD hS => ?_)
  have hP : va_P G cl [(a0, .inr (6, [.ref q1, .ref q2, .ref q3, .int 0, .null, .null, .int 0, .int 0, .int 0, .null, .int 0, .null, .null, .null, .null, .int 0, .int 0, .int 0, .int 0, .int 0])), (q1, .inl (cI, 729, .inl (fun _ => 0))), (q2, .inl (cI, 729, .inl (fun _ => 0))), (q3, .inl (cI, 729, .inl (fun _ => 0)))] H := hP
  have hD : va_D A [(a0, .inr (6, [.ref q1, .ref q2, .ref q3, .int 0, .null, .null, .int 0, .int 0, .int 0, .null, .int 0, .null, .null, .null, .null, .int 0, .int 0, .int 0, .int 0, .int 0])), (q1, .inl (cI, 729, .inl (fun _ => 0))), (q2, .inl (cI, 729, .inl (fun _ => 0))), (q3, .inl (cI, 729, .inl (fun _ => 0)))] := hD
  refine lv_aload_n hx hb dX6_init_31 rfl (lv_at hl 0 rfl) ?_
  refine lv_iconst (v := 0) hx hb dX6_init_32 (by decide) ?_
  refine k_put hC hK hP hD hS iX6 tyX6_ok nmX6 0 3 wf_X6_21 rfl (by decide) rfl rfl rfl rfl (Nat.le_of_ble_eq_true rfl) dX6_init_33 (fun H locs hP hD hS => ?_)
  have hP : va_P G cl [(a0, .inr (6, [.ref q1, .ref q2, .ref q3, .int 0, .null, .null, .int 0, .int 0, .int 0, .null, .int 0, .null, .null, .null, .null, .int 0, .int 0, .int 0, .int 0, .int 0])), (q1, .inl (cI, 729, .inl (fun _ => 0))), (q2, .inl (cI, 729, .inl (fun _ => 0))), (q3, .inl (cI, 729, .inl (fun _ => 0)))] H := hP
  have hD : va_D A [(a0, .inr (6, [.ref q1, .ref q2, .ref q3, .int 0, .null, .null, .int 0, .int 0, .int 0, .null, .int 0, .null, .null, .null, .null, .int 0, .int 0, .int 0, .int 0, .int 0])), (q1, .inl (cI, 729, .inl (fun _ => 0))), (q2, .inl (cI, 729, .inl (fun _ => 0))), (q3, .inl (cI, 729, .inl (fun _ => 0)))] := hD
  refine lv_aload_n hx hb dX6_init_36 rfl (lv_at hl 0 rfl) ?_
  refine lv_sipush (v := 2187) hx hb dX6_init_37 (by decide) ?_
  refine k_newa (atype := .int) (a0 := (2187, .inl (fun _ => 0))) hx hb (hts _ warr_I) rfl 0 rfl (fun h => h) hK hP hD hS hA (fun _ => rfl) (by decide +kernel) (by decide +kernel) (by decide) (Nat.le_of_ble_eq_true rfl) (Nat.le_of_ble_eq_true rfl) dX6_init_40 (fun q4 H hP hD hS => ?_)
  have hP : va_P G cl [(a0, .inr (6, [.ref q1, .ref q2, .ref q3, .int 0, .null, .null, .int 0, .int 0, .int 0, .null, .int 0, .null, .null, .null, .null, .int 0, .int 0, .int 0, .int 0, .int 0])), (q1, .inl (cI, 729, .inl (fun _ => 0))), (q2, .inl (cI, 729, .inl (fun _ => 0))), (q3, .inl (cI, 729, .inl (fun _ => 0))), (q4, .inl (cI, 2187, .inl (fun _ => 0)))] H := hP
  have hD : va_D A [(a0, .inr (6, [.ref q1, .ref q2, .ref q3, .int 0, .null, .null, .int 0, .int 0, .int 0, .null, .int 0, .null, .null, .null, .null, .int 0, .int 0, .int 0, .int 0, .int 0])), (q1, .inl (cI, 729, .inl (fun _ => 0))), (q2, .inl (cI, 729, .inl (fun _ => 0))), (q3, .inl (cI, 729, .inl (fun _ => 0))), (q4, .inl (cI, 2187, .inl (fun _ => 0)))] := hD
  refine k_putF hC hnm hK hP hD hS iX6 tyX6_ok nmX6 0 4 wf_X6_25 rfl (by decide) rfl rfl rfl rfl rfl (Nat.le_of_ble_eq_true rfl) dX6_init_42 (fun H locs hP hD hS => ?_)
  have hP : va_P G cl [(a0, .inr (6, [.ref q1, .ref q2, .ref q3, .int 0, .ref q4, .null, .int 0, .int 0, .int 0, .null, .int 0, .null, .null, .null, .null, .int 0, .int 0, .int 0, .int 0, .int 0])), (q1, .inl (cI, 729, .inl (fun _ => 0))), (q2, .inl (cI, 729, .inl (fun _ => 0))), (q3, .inl (cI, 729, .inl (fun _ => 0))), (q4, .inl (cI, 2187, .inl (fun _ => 0)))] H := hP
  have hD : va_D A [(a0, .inr (6, [.ref q1, .ref q2, .ref q3, .int 0, .ref q4, .null, .int 0, .int 0, .int 0, .null, .int 0, .null, .null, .null, .null, .int 0, .int 0, .int 0, .int 0, .int 0])), (q1, .inl (cI, 729, .inl (fun _ => 0))), (q2, .inl (cI, 729, .inl (fun _ => 0))), (q3, .inl (cI, 729, .inl (fun _ => 0))), (q4, .inl (cI, 2187, .inl (fun _ => 0)))] := hD
  refine lv_aload_n hx hb dX6_init_45 rfl (lv_at hl 0 rfl) ?_
  refine lv_bipush (v := 64) hx hb dX6_init_46 (by decide) ?_
  refine k_newa (atype := .int) (a0 := (64, .inl (fun _ => 0))) hx hb (hts _ warr_I) rfl 0 rfl (fun h => h) hK hP hD hS hA (fun _ => rfl) (by decide +kernel) (by decide +kernel) (by decide) (Nat.le_of_ble_eq_true rfl) (Nat.le_of_ble_eq_true rfl) dX6_init_48 (fun q5 H hP hD hS => ?_)
  have hP : va_P G cl [(a0, .inr (6, [.ref q1, .ref q2, .ref q3, .int 0, .ref q4, .null, .int 0, .int 0, .int 0, .null, .int 0, .null, .null, .null, .null, .int 0, .int 0, .int 0, .int 0, .int 0])), (q1, .inl (cI, 729, .inl (fun _ => 0))), (q2, .inl (cI, 729, .inl (fun _ => 0))), (q3, .inl (cI, 729, .inl (fun _ => 0))), (q4, .inl (cI, 2187, .inl (fun _ => 0))), (q5, .inl (cI, 64, .inl (fun _ => 0)))] H := hP
  have hD : va_D A [(a0, .inr (6, [.ref q1, .ref q2, .ref q3, .int 0, .ref q4, .null, .int 0, .int 0, .int 0, .null, .int 0, .null, .null, .null, .null, .int 0, .int 0, .int 0, .int 0, .int 0])), (q1, .inl (cI, 729, .inl (fun _ => 0))), (q2, .inl (cI, 729, .inl (fun _ => 0))), (q3, .inl (cI, 729, .inl (fun _ => 0))), (q4, .inl (cI, 2187, .inl (fun _ => 0))), (q5, .inl (cI, 64, .inl (fun _ => 0)))] := hD
  refine k_putF hC hnm hK hP hD hS iX6 tyX6_ok nmX6 0 5 wf_X6_28 rfl (by decide) rfl rfl rfl rfl rfl (Nat.le_of_ble_eq_true rfl) dX6_init_50 (fun H locs hP hD hS => ?_)
  have hP : va_P G cl [(a0, .inr (6, [.ref q1, .ref q2, .ref q3, .int 0, .ref q4, .ref q5, .int 0, .int 0, .int 0, .null, .int 0, .null, .null, .null, .null, .int 0, .int 0, .int 0, .int 0, .int 0])), (q1, .inl (cI, 729, .inl (fun _ => 0))), (q2, .inl (cI, 729, .inl (fun _ => 0))), (q3, .inl (cI, 729, .inl (fun _ => 0))), (q4, .inl (cI, 2187, .inl (fun _ => 0))), (q5, .inl (cI, 64, .inl (fun _ => 0)))] H := hP
  have hD : va_D A [(a0, .inr (6, [.ref q1, .ref q2, .ref q3, .int 0, .ref q4, .ref q5, .int 0, .int 0, .int 0, .null, .int 0, .null, .null, .null, .null, .int 0, .int 0, .int 0, .int 0, .int 0])), (q1, .inl (cI, 729, .inl (fun _ => 0))), (q2, .inl (cI, 729, .inl (fun _ => 0))), (q3, .inl (cI, 729, .inl (fun _ => 0))), (q4, .inl (cI, 2187, .inl (fun _ => 0))), (q5, .inl (cI, 64, .inl (fun _ => 0)))] := hD
  refine lv_aload_n hx hb dX6_init_53 rfl (lv_at hl 0 rfl) ?_
  refine lv_iconst (v := (-1)) hx hb dX6_init_54 (by decide) ?_
  refine k_put hC hK hP hD hS iX6 tyX6_ok nmX6 0 6 wf_X6_31 rfl (by decide) rfl rfl rfl rfl (Nat.le_of_ble_eq_true rfl) dX6_init_55 (fun H locs hP hD hS => ?_)
  have hP : va_P G cl [(a0, .inr (6, [.ref q1, .ref q2, .ref q3, .int 0, .ref q4, .ref q5, .int (-1), .int 0, .int 0, .null, .int 0, .null, .null, .null, .null, .int 0, .int 0, .int 0, .int 0, .int 0])), (q1, .inl (cI, 729, .inl (fun _ => 0))), (q2, .inl (cI, 729, .inl (fun _ => 0))), (q3, .inl (cI, 729, .inl (fun _ => 0))), (q4, .inl (cI, 2187, .inl (fun _ => 0))), (q5, .inl (cI, 64, .inl (fun _ => 0)))] H := hP
  have hD : va_D A [(a0, .inr (6, [.ref q1, .ref q2, .ref q3, .int 0, .ref q4, .ref q5, .int (-1), .int 0, .int 0, .null, .int 0, .null, .null, .null, .null, .int 0, .int 0, .int 0, .int 0, .int 0])), (q1, .inl (cI, 729, .inl (fun _ => 0))), (q2, .inl (cI, 729, .inl (fun _ => 0))), (q3, .inl (cI, 729, .inl (fun _ => 0))), (q4, .inl (cI, 2187, .inl (fun _ => 0))), (q5, .inl (cI, 64, .inl (fun _ => 0)))] := hD
  refine lv_aload_n hx hb dX6_init_58 rfl (lv_at hl 0 rfl) ?_
  refine lv_iconst (v := (-1)) hx hb dX6_init_59 (by decide) ?_
  refine k_put hC hK hP hD hS iX6 tyX6_ok nmX6 0 7 wf_X6_34 rfl (by decide) rfl rfl rfl rfl (Nat.le_of_ble_eq_true rfl) dX6_init_60 (fun H locs hP hD hS => ?_)
  have hP : va_P G cl [(a0, .inr (6, [.ref q1, .ref q2, .ref q3, .int 0, .ref q4, .ref q5, .int (-1), .int (-1), .int 0, .null, .int 0, .null, .null, .null, .null, .int 0, .int 0, .int 0, .int 0, .int 0])), (q1, .inl (cI, 729, .inl (fun _ => 0))), (q2, .inl (cI, 729, .inl (fun _ => 0))), (q3, .inl (cI, 729, .inl (fun _ => 0))), (q4, .inl (cI, 2187, .inl (fun _ => 0))), (q5, .inl (cI, 64, .inl (fun _ => 0)))] H := hP
  have hD : va_D A [(a0, .inr (6, [.ref q1, .ref q2, .ref q3, .int 0, .ref q4, .ref q5, .int (-1), .int (-1), .int 0, .null, .int 0, .null, .null, .null, .null, .int 0, .int 0, .int 0, .int 0, .int 0])), (q1, .inl (cI, 729, .inl (fun _ => 0))), (q2, .inl (cI, 729, .inl (fun _ => 0))), (q3, .inl (cI, 729, .inl (fun _ => 0))), (q4, .inl (cI, 2187, .inl (fun _ => 0))), (q5, .inl (cI, 64, .inl (fun _ => 0)))] := hD
  refine lv_aload_n hx hb dX6_init_63 rfl (lv_at hl 0 rfl) ?_
  refine lv_iconst (v := (-1)) hx hb dX6_init_64 (by decide) ?_
  refine k_put hC hK hP hD hS iX6 tyX6_ok nmX6 0 8 wf_X6_37 rfl (by decide) rfl rfl rfl rfl (Nat.le_of_ble_eq_true rfl) dX6_init_65 (fun H locs hP hD hS => ?_)
  have hP : va_P G cl [(a0, .inr (6, [.ref q1, .ref q2, .ref q3, .int 0, .ref q4, .ref q5, .int (-1), .int (-1), .int (-1), .null, .int 0, .null, .null, .null, .null, .int 0, .int 0, .int 0, .int 0, .int 0])), (q1, .inl (cI, 729, .inl (fun _ => 0))), (q2, .inl (cI, 729, .inl (fun _ => 0))), (q3, .inl (cI, 729, .inl (fun _ => 0))), (q4, .inl (cI, 2187, .inl (fun _ => 0))), (q5, .inl (cI, 64, .inl (fun _ => 0)))] H := hP
  have hD : va_D A [(a0, .inr (6, [.ref q1, .ref q2, .ref q3, .int 0, .ref q4, .ref q5, .int (-1), .int (-1), .int (-1), .null, .int 0, .null, .null, .null, .null, .int 0, .int 0, .int 0, .int 0, .int 0])), (q1, .inl (cI, 729, .inl (fun _ => 0))), (q2, .inl (cI, 729, .inl (fun _ => 0))), (q3, .inl (cI, 729, .inl (fun _ => 0))), (q4, .inl (cI, 2187, .inl (fun _ => 0))), (q5, .inl (cI, 64, .inl (fun _ => 0)))] := hD
  refine lv_aload_n hx hb dX6_init_68 rfl (lv_at hl 0 rfl) ?_
  refine lv_sipush (v := 240) hx hb dX6_init_69 (by decide) ?_
  refine k_newa (atype := .int) (a0 := (240, .inl (fun _ => 0))) hx hb (hts _ warr_I) rfl 0 rfl (fun h => h) hK hP hD hS hA (fun _ => rfl) (by decide +kernel) (by decide +kernel) (by decide) (Nat.le_of_ble_eq_true rfl) (Nat.le_of_ble_eq_true rfl) dX6_init_72 (fun q6 H hP hD hS => ?_)
  have hP : va_P G cl [(a0, .inr (6, [.ref q1, .ref q2, .ref q3, .int 0, .ref q4, .ref q5, .int (-1), .int (-1), .int (-1), .null, .int 0, .null, .null, .null, .null, .int 0, .int 0, .int 0, .int 0, .int 0])), (q1, .inl (cI, 729, .inl (fun _ => 0))), (q2, .inl (cI, 729, .inl (fun _ => 0))), (q3, .inl (cI, 729, .inl (fun _ => 0))), (q4, .inl (cI, 2187, .inl (fun _ => 0))), (q5, .inl (cI, 64, .inl (fun _ => 0))), (q6, .inl (cI, 240, .inl (fun _ => 0)))] H := hP
  have hD : va_D A [(a0, .inr (6, [.ref q1, .ref q2, .ref q3, .int 0, .ref q4, .ref q5, .int (-1), .int (-1), .int (-1), .null, .int 0, .null, .null, .null, .null, .int 0, .int 0, .int 0, .int 0, .int 0])), (q1, .inl (cI, 729, .inl (fun _ => 0))), (q2, .inl (cI, 729, .inl (fun _ => 0))), (q3, .inl (cI, 729, .inl (fun _ => 0))), (q4, .inl (cI, 2187, .inl (fun _ => 0))), (q5, .inl (cI, 64, .inl (fun _ => 0))), (q6, .inl (cI, 240, .inl (fun _ => 0)))] := hD
  refine k_putF hC hnm hK hP hD hS iX6 tyX6_ok nmX6 0 9 wf_X6_40 rfl (by decide) rfl rfl rfl rfl rfl (Nat.le_of_ble_eq_true rfl) dX6_init_74 (fun H locs hP hD hS => ?_)
  have hP : va_P G cl [(a0, .inr (6, [.ref q1, .ref q2, .ref q3, .int 0, .ref q4, .ref q5, .int (-1), .int (-1), .int (-1), .ref q6, .int 0, .null, .null, .null, .null, .int 0, .int 0, .int 0, .int 0, .int 0])), (q1, .inl (cI, 729, .inl (fun _ => 0))), (q2, .inl (cI, 729, .inl (fun _ => 0))), (q3, .inl (cI, 729, .inl (fun _ => 0))), (q4, .inl (cI, 2187, .inl (fun _ => 0))), (q5, .inl (cI, 64, .inl (fun _ => 0))), (q6, .inl (cI, 240, .inl (fun _ => 0)))] H := hP
  have hD : va_D A [(a0, .inr (6, [.ref q1, .ref q2, .ref q3, .int 0, .ref q4, .ref q5, .int (-1), .int (-1), .int (-1), .ref q6, .int 0, .null, .null, .null, .null, .int 0, .int 0, .int 0, .int 0, .int 0])), (q1, .inl (cI, 729, .inl (fun _ => 0))), (q2, .inl (cI, 729, .inl (fun _ => 0))), (q3, .inl (cI, 729, .inl (fun _ => 0))), (q4, .inl (cI, 2187, .inl (fun _ => 0))), (q5, .inl (cI, 64, .inl (fun _ => 0))), (q6, .inl (cI, 240, .inl (fun _ => 0)))] := hD
  refine lv_aload_n hx hb dX6_init_77 rfl (lv_at hl 0 rfl) ?_
  refine lv_iconst (v := 0) hx hb dX6_init_78 (by decide) ?_
  refine k_put hC hK hP hD hS iX6 tyX6_ok nmX6 0 10 wf_X6_43 rfl (by decide) rfl rfl rfl rfl (Nat.le_of_ble_eq_true rfl) dX6_init_79 (fun H locs hP hD hS => ?_)
  have hP : va_P G cl [(a0, .inr (6, [.ref q1, .ref q2, .ref q3, .int 0, .ref q4, .ref q5, .int (-1), .int (-1), .int (-1), .ref q6, .int 0, .null, .null, .null, .null, .int 0, .int 0, .int 0, .int 0, .int 0])), (q1, .inl (cI, 729, .inl (fun _ => 0))), (q2, .inl (cI, 729, .inl (fun _ => 0))), (q3, .inl (cI, 729, .inl (fun _ => 0))), (q4, .inl (cI, 2187, .inl (fun _ => 0))), (q5, .inl (cI, 64, .inl (fun _ => 0))), (q6, .inl (cI, 240, .inl (fun _ => 0)))] H := hP
  have hD : va_D A [(a0, .inr (6, [.ref q1, .ref q2, .ref q3, .int 0, .ref q4, .ref q5, .int (-1), .int (-1), .int (-1), .ref q6, .int 0, .null, .null, .null, .null, .int 0, .int 0, .int 0, .int 0, .int 0])), (q1, .inl (cI, 729, .inl (fun _ => 0))), (q2, .inl (cI, 729, .inl (fun _ => 0))), (q3, .inl (cI, 729, .inl (fun _ => 0))), (q4, .inl (cI, 2187, .inl (fun _ => 0))), (q5, .inl (cI, 64, .inl (fun _ => 0))), (q6, .inl (cI, 240, .inl (fun _ => 0)))] := hD
  refine lv_aload_n hx hb dX6_init_82 rfl (lv_at hl 0 rfl) ?_
  refine lv_sipush (v := 2160) hx hb dX6_init_83 (by decide) ?_
  refine k_newa (atype := .long) (a0 := (2160, .inr (.inl (fun _ => 0)))) hx hb (hts _ warr_J) rfl 1 rfl (fun h => h) hK hP hD hS hA (fun _ => rfl) (by decide +kernel) (by decide +kernel) (by decide) (Nat.le_of_ble_eq_true rfl) (Nat.le_of_ble_eq_true rfl) dX6_init_86 (fun q7 H hP hD hS => ?_)
  have hP : va_P G cl [(a0, .inr (6, [.ref q1, .ref q2, .ref q3, .int 0, .ref q4, .ref q5, .int (-1), .int (-1), .int (-1), .ref q6, .int 0, .null, .null, .null, .null, .int 0, .int 0, .int 0, .int 0, .int 0])), (q1, .inl (cI, 729, .inl (fun _ => 0))), (q2, .inl (cI, 729, .inl (fun _ => 0))), (q3, .inl (cI, 729, .inl (fun _ => 0))), (q4, .inl (cI, 2187, .inl (fun _ => 0))), (q5, .inl (cI, 64, .inl (fun _ => 0))), (q6, .inl (cI, 240, .inl (fun _ => 0))), (q7, .inl (cJ, 2160, .inr (.inl (fun _ => 0))))] H := hP
  have hD : va_D A [(a0, .inr (6, [.ref q1, .ref q2, .ref q3, .int 0, .ref q4, .ref q5, .int (-1), .int (-1), .int (-1), .ref q6, .int 0, .null, .null, .null, .null, .int 0, .int 0, .int 0, .int 0, .int 0])), (q1, .inl (cI, 729, .inl (fun _ => 0))), (q2, .inl (cI, 729, .inl (fun _ => 0))), (q3, .inl (cI, 729, .inl (fun _ => 0))), (q4, .inl (cI, 2187, .inl (fun _ => 0))), (q5, .inl (cI, 64, .inl (fun _ => 0))), (q6, .inl (cI, 240, .inl (fun _ => 0))), (q7, .inl (cJ, 2160, .inr (.inl (fun _ => 0))))] := hD
  refine k_putF hC hnm hK hP hD hS iX6 tyX6_ok nmX6 0 11 wf_X6_46 rfl (by decide) rfl rfl rfl rfl rfl (Nat.le_of_ble_eq_true rfl) dX6_init_88 (fun H locs hP hD hS => ?_)
  have hP : va_P G cl [(a0, .inr (6, [.ref q1, .ref q2, .ref q3, .int 0, .ref q4, .ref q5, .int (-1), .int (-1), .int (-1), .ref q6, .int 0, .ref q7, .null, .null, .null, .int 0, .int 0, .int 0, .int 0, .int 0])), (q1, .inl (cI, 729, .inl (fun _ => 0))), (q2, .inl (cI, 729, .inl (fun _ => 0))), (q3, .inl (cI, 729, .inl (fun _ => 0))), (q4, .inl (cI, 2187, .inl (fun _ => 0))), (q5, .inl (cI, 64, .inl (fun _ => 0))), (q6, .inl (cI, 240, .inl (fun _ => 0))), (q7, .inl (cJ, 2160, .inr (.inl (fun _ => 0))))] H := hP
  have hD : va_D A [(a0, .inr (6, [.ref q1, .ref q2, .ref q3, .int 0, .ref q4, .ref q5, .int (-1), .int (-1), .int (-1), .ref q6, .int 0, .ref q7, .null, .null, .null, .int 0, .int 0, .int 0, .int 0, .int 0])), (q1, .inl (cI, 729, .inl (fun _ => 0))), (q2, .inl (cI, 729, .inl (fun _ => 0))), (q3, .inl (cI, 729, .inl (fun _ => 0))), (q4, .inl (cI, 2187, .inl (fun _ => 0))), (q5, .inl (cI, 64, .inl (fun _ => 0))), (q6, .inl (cI, 240, .inl (fun _ => 0))), (q7, .inl (cJ, 2160, .inr (.inl (fun _ => 0))))] := hD
  refine lv_aload_n hx hb dX6_init_91 rfl (lv_at hl 0 rfl) ?_
  refine lv_iconst (v := 3) hx hb dX6_init_92 (by decide) ?_
  refine k_newa (atype := .long) (a0 := (3, .inr (.inl (fun _ => 0)))) hx hb (hts _ warr_J) rfl 1 rfl (fun h => h) hK hP hD hS hA (fun _ => rfl) (by decide +kernel) (by decide +kernel) (by decide) (Nat.le_of_ble_eq_true rfl) (Nat.le_of_ble_eq_true rfl) dX6_init_93 (fun q8 H hP hD hS => ?_)
  have hP : va_P G cl [(a0, .inr (6, [.ref q1, .ref q2, .ref q3, .int 0, .ref q4, .ref q5, .int (-1), .int (-1), .int (-1), .ref q6, .int 0, .ref q7, .null, .null, .null, .int 0, .int 0, .int 0, .int 0, .int 0])), (q1, .inl (cI, 729, .inl (fun _ => 0))), (q2, .inl (cI, 729, .inl (fun _ => 0))), (q3, .inl (cI, 729, .inl (fun _ => 0))), (q4, .inl (cI, 2187, .inl (fun _ => 0))), (q5, .inl (cI, 64, .inl (fun _ => 0))), (q6, .inl (cI, 240, .inl (fun _ => 0))), (q7, .inl (cJ, 2160, .inr (.inl (fun _ => 0)))), (q8, .inl (cJ, 3, .inr (.inl (fun _ => 0))))] H := hP
  have hD : va_D A [(a0, .inr (6, [.ref q1, .ref q2, .ref q3, .int 0, .ref q4, .ref q5, .int (-1), .int (-1), .int (-1), .ref q6, .int 0, .ref q7, .null, .null, .null, .int 0, .int 0, .int 0, .int 0, .int 0])), (q1, .inl (cI, 729, .inl (fun _ => 0))), (q2, .inl (cI, 729, .inl (fun _ => 0))), (q3, .inl (cI, 729, .inl (fun _ => 0))), (q4, .inl (cI, 2187, .inl (fun _ => 0))), (q5, .inl (cI, 64, .inl (fun _ => 0))), (q6, .inl (cI, 240, .inl (fun _ => 0))), (q7, .inl (cJ, 2160, .inr (.inl (fun _ => 0)))), (q8, .inl (cJ, 3, .inr (.inl (fun _ => 0))))] := hD
  refine k_putF hC hnm hK hP hD hS iX6 tyX6_ok nmX6 0 12 wf_X6_50 rfl (by decide) rfl rfl rfl rfl rfl (Nat.le_of_ble_eq_true rfl) dX6_init_95 (fun H locs hP hD hS => ?_)
  have hP : va_P G cl [(a0, .inr (6, [.ref q1, .ref q2, .ref q3, .int 0, .ref q4, .ref q5, .int (-1), .int (-1), .int (-1), .ref q6, .int 0, .ref q7, .ref q8, .null, .null, .int 0, .int 0, .int 0, .int 0, .int 0])), (q1, .inl (cI, 729, .inl (fun _ => 0))), (q2, .inl (cI, 729, .inl (fun _ => 0))), (q3, .inl (cI, 729, .inl (fun _ => 0))), (q4, .inl (cI, 2187, .inl (fun _ => 0))), (q5, .inl (cI, 64, .inl (fun _ => 0))), (q6, .inl (cI, 240, .inl (fun _ => 0))), (q7, .inl (cJ, 2160, .inr (.inl (fun _ => 0)))), (q8, .inl (cJ, 3, .inr (.inl (fun _ => 0))))] H := hP
  have hD : va_D A [(a0, .inr (6, [.ref q1, .ref q2, .ref q3, .int 0, .ref q4, .ref q5, .int (-1), .int (-1), .int (-1), .ref q6, .int 0, .ref q7, .ref q8, .null, .null, .int 0, .int 0, .int 0, .int 0, .int 0])), (q1, .inl (cI, 729, .inl (fun _ => 0))), (q2, .inl (cI, 729, .inl (fun _ => 0))), (q3, .inl (cI, 729, .inl (fun _ => 0))), (q4, .inl (cI, 2187, .inl (fun _ => 0))), (q5, .inl (cI, 64, .inl (fun _ => 0))), (q6, .inl (cI, 240, .inl (fun _ => 0))), (q7, .inl (cJ, 2160, .inr (.inl (fun _ => 0)))), (q8, .inl (cJ, 3, .inr (.inl (fun _ => 0))))] := hD
  refine lv_aload_n hx hb dX6_init_98 rfl (lv_at hl 0 rfl) ?_
  refine lv_iconst (v := 3) hx hb dX6_init_99 (by decide) ?_
  refine k_newa (atype := .long) (a0 := (3, .inr (.inl (fun _ => 0)))) hx hb (hts _ warr_J) rfl 1 rfl (fun h => h) hK hP hD hS hA (fun _ => rfl) (by decide +kernel) (by decide +kernel) (by decide) (Nat.le_of_ble_eq_true rfl) (Nat.le_of_ble_eq_true rfl) dX6_init_100 (fun q9 H hP hD hS => ?_)
  have hP : va_P G cl [(a0, .inr (6, [.ref q1, .ref q2, .ref q3, .int 0, .ref q4, .ref q5, .int (-1), .int (-1), .int (-1), .ref q6, .int 0, .ref q7, .ref q8, .null, .null, .int 0, .int 0, .int 0, .int 0, .int 0])), (q1, .inl (cI, 729, .inl (fun _ => 0))), (q2, .inl (cI, 729, .inl (fun _ => 0))), (q3, .inl (cI, 729, .inl (fun _ => 0))), (q4, .inl (cI, 2187, .inl (fun _ => 0))), (q5, .inl (cI, 64, .inl (fun _ => 0))), (q6, .inl (cI, 240, .inl (fun _ => 0))), (q7, .inl (cJ, 2160, .inr (.inl (fun _ => 0)))), (q8, .inl (cJ, 3, .inr (.inl (fun _ => 0)))), (q9, .inl (cJ, 3, .inr (.inl (fun _ => 0))))] H := hP
  have hD : va_D A [(a0, .inr (6, [.ref q1, .ref q2, .ref q3, .int 0, .ref q4, .ref q5, .int (-1), .int (-1), .int (-1), .ref q6, .int 0, .ref q7, .ref q8, .null, .null, .int 0, .int 0, .int 0, .int 0, .int 0])), (q1, .inl (cI, 729, .inl (fun _ => 0))), (q2, .inl (cI, 729, .inl (fun _ => 0))), (q3, .inl (cI, 729, .inl (fun _ => 0))), (q4, .inl (cI, 2187, .inl (fun _ => 0))), (q5, .inl (cI, 64, .inl (fun _ => 0))), (q6, .inl (cI, 240, .inl (fun _ => 0))), (q7, .inl (cJ, 2160, .inr (.inl (fun _ => 0)))), (q8, .inl (cJ, 3, .inr (.inl (fun _ => 0)))), (q9, .inl (cJ, 3, .inr (.inl (fun _ => 0))))] := hD
  refine k_putF hC hnm hK hP hD hS iX6 tyX6_ok nmX6 0 13 wf_X6_53 rfl (by decide) rfl rfl rfl rfl rfl (Nat.le_of_ble_eq_true rfl) dX6_init_102 (fun H locs hP hD hS => ?_)
  have hP : va_P G cl [(a0, .inr (6, [.ref q1, .ref q2, .ref q3, .int 0, .ref q4, .ref q5, .int (-1), .int (-1), .int (-1), .ref q6, .int 0, .ref q7, .ref q8, .ref q9, .null, .int 0, .int 0, .int 0, .int 0, .int 0])), (q1, .inl (cI, 729, .inl (fun _ => 0))), (q2, .inl (cI, 729, .inl (fun _ => 0))), (q3, .inl (cI, 729, .inl (fun _ => 0))), (q4, .inl (cI, 2187, .inl (fun _ => 0))), (q5, .inl (cI, 64, .inl (fun _ => 0))), (q6, .inl (cI, 240, .inl (fun _ => 0))), (q7, .inl (cJ, 2160, .inr (.inl (fun _ => 0)))), (q8, .inl (cJ, 3, .inr (.inl (fun _ => 0)))), (q9, .inl (cJ, 3, .inr (.inl (fun _ => 0))))] H := hP
  have hD : va_D A [(a0, .inr (6, [.ref q1, .ref q2, .ref q3, .int 0, .ref q4, .ref q5, .int (-1), .int (-1), .int (-1), .ref q6, .int 0, .ref q7, .ref q8, .ref q9, .null, .int 0, .int 0, .int 0, .int 0, .int 0])), (q1, .inl (cI, 729, .inl (fun _ => 0))), (q2, .inl (cI, 729, .inl (fun _ => 0))), (q3, .inl (cI, 729, .inl (fun _ => 0))), (q4, .inl (cI, 2187, .inl (fun _ => 0))), (q5, .inl (cI, 64, .inl (fun _ => 0))), (q6, .inl (cI, 240, .inl (fun _ => 0))), (q7, .inl (cJ, 2160, .inr (.inl (fun _ => 0)))), (q8, .inl (cJ, 3, .inr (.inl (fun _ => 0)))), (q9, .inl (cJ, 3, .inr (.inl (fun _ => 0))))] := hD
  refine lv_aload_n hx hb dX6_init_105 rfl (lv_at hl 0 rfl) ?_
  refine lv_iconst (v := 3) hx hb dX6_init_106 (by decide) ?_
  refine k_newa (atype := .long) (a0 := (3, .inr (.inl (fun _ => 0)))) hx hb (hts _ warr_J) rfl 1 rfl (fun h => h) hK hP hD hS hA (fun _ => rfl) (by decide +kernel) (by decide +kernel) (by decide) (Nat.le_of_ble_eq_true rfl) (Nat.le_of_ble_eq_true rfl) dX6_init_107 (fun q10 H hP hD hS => ?_)
  have hP : va_P G cl [(a0, .inr (6, [.ref q1, .ref q2, .ref q3, .int 0, .ref q4, .ref q5, .int (-1), .int (-1), .int (-1), .ref q6, .int 0, .ref q7, .ref q8, .ref q9, .null, .int 0, .int 0, .int 0, .int 0, .int 0])), (q1, .inl (cI, 729, .inl (fun _ => 0))), (q2, .inl (cI, 729, .inl (fun _ => 0))), (q3, .inl (cI, 729, .inl (fun _ => 0))), (q4, .inl (cI, 2187, .inl (fun _ => 0))), (q5, .inl (cI, 64, .inl (fun _ => 0))), (q6, .inl (cI, 240, .inl (fun _ => 0))), (q7, .inl (cJ, 2160, .inr (.inl (fun _ => 0)))), (q8, .inl (cJ, 3, .inr (.inl (fun _ => 0)))), (q9, .inl (cJ, 3, .inr (.inl (fun _ => 0)))), (q10, .inl (cJ, 3, .inr (.inl (fun _ => 0))))] H := hP
  have hD : va_D A [(a0, .inr (6, [.ref q1, .ref q2, .ref q3, .int 0, .ref q4, .ref q5, .int (-1), .int (-1), .int (-1), .ref q6, .int 0, .ref q7, .ref q8, .ref q9, .null, .int 0, .int 0, .int 0, .int 0, .int 0])), (q1, .inl (cI, 729, .inl (fun _ => 0))), (q2, .inl (cI, 729, .inl (fun _ => 0))), (q3, .inl (cI, 729, .inl (fun _ => 0))), (q4, .inl (cI, 2187, .inl (fun _ => 0))), (q5, .inl (cI, 64, .inl (fun _ => 0))), (q6, .inl (cI, 240, .inl (fun _ => 0))), (q7, .inl (cJ, 2160, .inr (.inl (fun _ => 0)))), (q8, .inl (cJ, 3, .inr (.inl (fun _ => 0)))), (q9, .inl (cJ, 3, .inr (.inl (fun _ => 0)))), (q10, .inl (cJ, 3, .inr (.inl (fun _ => 0))))] := hD
  refine k_putF hC hnm hK hP hD hS iX6 tyX6_ok nmX6 0 14 wf_X6_56 rfl (by decide) rfl rfl rfl rfl rfl (Nat.le_of_ble_eq_true rfl) dX6_init_109 (fun H locs hP hD hS => ?_)
  have hP : va_P G cl [(a0, .inr (6, [.ref q1, .ref q2, .ref q3, .int 0, .ref q4, .ref q5, .int (-1), .int (-1), .int (-1), .ref q6, .int 0, .ref q7, .ref q8, .ref q9, .ref q10, .int 0, .int 0, .int 0, .int 0, .int 0])), (q1, .inl (cI, 729, .inl (fun _ => 0))), (q2, .inl (cI, 729, .inl (fun _ => 0))), (q3, .inl (cI, 729, .inl (fun _ => 0))), (q4, .inl (cI, 2187, .inl (fun _ => 0))), (q5, .inl (cI, 64, .inl (fun _ => 0))), (q6, .inl (cI, 240, .inl (fun _ => 0))), (q7, .inl (cJ, 2160, .inr (.inl (fun _ => 0)))), (q8, .inl (cJ, 3, .inr (.inl (fun _ => 0)))), (q9, .inl (cJ, 3, .inr (.inl (fun _ => 0)))), (q10, .inl (cJ, 3, .inr (.inl (fun _ => 0))))] H := hP
  have hD : va_D A [(a0, .inr (6, [.ref q1, .ref q2, .ref q3, .int 0, .ref q4, .ref q5, .int (-1), .int (-1), .int (-1), .ref q6, .int 0, .ref q7, .ref q8, .ref q9, .ref q10, .int 0, .int 0, .int 0, .int 0, .int 0])), (q1, .inl (cI, 729, .inl (fun _ => 0))), (q2, .inl (cI, 729, .inl (fun _ => 0))), (q3, .inl (cI, 729, .inl (fun _ => 0))), (q4, .inl (cI, 2187, .inl (fun _ => 0))), (q5, .inl (cI, 64, .inl (fun _ => 0))), (q6, .inl (cI, 240, .inl (fun _ => 0))), (q7, .inl (cJ, 2160, .inr (.inl (fun _ => 0)))), (q8, .inl (cJ, 3, .inr (.inl (fun _ => 0)))), (q9, .inl (cJ, 3, .inr (.inl (fun _ => 0)))), (q10, .inl (cJ, 3, .inr (.inl (fun _ => 0))))] := hD
  refine lv_aload_n hx hb dX6_init_112 rfl (lv_at hl 0 rfl) ?_
  refine lv_iconst (v := 0) hx hb dX6_init_113 (by decide) ?_
  refine k_put hC hK hP hD hS iX6 tyX6_ok nmX6 0 15 wf_X6_59 rfl (by decide) rfl rfl rfl rfl (Nat.le_of_ble_eq_true rfl) dX6_init_114 (fun H locs hP hD hS => ?_)
  have hP : va_P G cl [(a0, .inr (6, [.ref q1, .ref q2, .ref q3, .int 0, .ref q4, .ref q5, .int (-1), .int (-1), .int (-1), .ref q6, .int 0, .ref q7, .ref q8, .ref q9, .ref q10, .int 0, .int 0, .int 0, .int 0, .int 0])), (q1, .inl (cI, 729, .inl (fun _ => 0))), (q2, .inl (cI, 729, .inl (fun _ => 0))), (q3, .inl (cI, 729, .inl (fun _ => 0))), (q4, .inl (cI, 2187, .inl (fun _ => 0))), (q5, .inl (cI, 64, .inl (fun _ => 0))), (q6, .inl (cI, 240, .inl (fun _ => 0))), (q7, .inl (cJ, 2160, .inr (.inl (fun _ => 0)))), (q8, .inl (cJ, 3, .inr (.inl (fun _ => 0)))), (q9, .inl (cJ, 3, .inr (.inl (fun _ => 0)))), (q10, .inl (cJ, 3, .inr (.inl (fun _ => 0))))] H := hP
  have hD : va_D A [(a0, .inr (6, [.ref q1, .ref q2, .ref q3, .int 0, .ref q4, .ref q5, .int (-1), .int (-1), .int (-1), .ref q6, .int 0, .ref q7, .ref q8, .ref q9, .ref q10, .int 0, .int 0, .int 0, .int 0, .int 0])), (q1, .inl (cI, 729, .inl (fun _ => 0))), (q2, .inl (cI, 729, .inl (fun _ => 0))), (q3, .inl (cI, 729, .inl (fun _ => 0))), (q4, .inl (cI, 2187, .inl (fun _ => 0))), (q5, .inl (cI, 64, .inl (fun _ => 0))), (q6, .inl (cI, 240, .inl (fun _ => 0))), (q7, .inl (cJ, 2160, .inr (.inl (fun _ => 0)))), (q8, .inl (cJ, 3, .inr (.inl (fun _ => 0)))), (q9, .inl (cJ, 3, .inr (.inl (fun _ => 0)))), (q10, .inl (cJ, 3, .inr (.inl (fun _ => 0))))] := hD
  refine lv_aload_n hx hb dX6_init_117 rfl (lv_at hl 0 rfl) ?_
  refine lv_iconst (v := (-1)) hx hb dX6_init_118 (by decide) ?_
  refine k_put hC hK hP hD hS iX6 tyX6_ok nmX6 0 16 wf_X6_62 rfl (by decide) rfl rfl rfl rfl (Nat.le_of_ble_eq_true rfl) dX6_init_119 (fun H locs hP hD hS => ?_)
  have hP : va_P G cl [(a0, .inr (6, [.ref q1, .ref q2, .ref q3, .int 0, .ref q4, .ref q5, .int (-1), .int (-1), .int (-1), .ref q6, .int 0, .ref q7, .ref q8, .ref q9, .ref q10, .int 0, .int (-1), .int 0, .int 0, .int 0])), (q1, .inl (cI, 729, .inl (fun _ => 0))), (q2, .inl (cI, 729, .inl (fun _ => 0))), (q3, .inl (cI, 729, .inl (fun _ => 0))), (q4, .inl (cI, 2187, .inl (fun _ => 0))), (q5, .inl (cI, 64, .inl (fun _ => 0))), (q6, .inl (cI, 240, .inl (fun _ => 0))), (q7, .inl (cJ, 2160, .inr (.inl (fun _ => 0)))), (q8, .inl (cJ, 3, .inr (.inl (fun _ => 0)))), (q9, .inl (cJ, 3, .inr (.inl (fun _ => 0)))), (q10, .inl (cJ, 3, .inr (.inl (fun _ => 0))))] H := hP
  have hD : va_D A [(a0, .inr (6, [.ref q1, .ref q2, .ref q3, .int 0, .ref q4, .ref q5, .int (-1), .int (-1), .int (-1), .ref q6, .int 0, .ref q7, .ref q8, .ref q9, .ref q10, .int 0, .int (-1), .int 0, .int 0, .int 0])), (q1, .inl (cI, 729, .inl (fun _ => 0))), (q2, .inl (cI, 729, .inl (fun _ => 0))), (q3, .inl (cI, 729, .inl (fun _ => 0))), (q4, .inl (cI, 2187, .inl (fun _ => 0))), (q5, .inl (cI, 64, .inl (fun _ => 0))), (q6, .inl (cI, 240, .inl (fun _ => 0))), (q7, .inl (cJ, 2160, .inr (.inl (fun _ => 0)))), (q8, .inl (cJ, 3, .inr (.inl (fun _ => 0)))), (q9, .inl (cJ, 3, .inr (.inl (fun _ => 0)))), (q10, .inl (cJ, 3, .inr (.inl (fun _ => 0))))] := hD
  refine lv_aload_n hx hb dX6_init_122 rfl (lv_at hl 0 rfl) ?_
  refine lv_iconst (v := (-1)) hx hb dX6_init_123 (by decide) ?_
  refine k_put hC hK hP hD hS iX6 tyX6_ok nmX6 0 17 wf_X6_65 rfl (by decide) rfl rfl rfl rfl (Nat.le_of_ble_eq_true rfl) dX6_init_124 (fun H locs hP hD hS => ?_)
  have hP : va_P G cl [(a0, .inr (6, [.ref q1, .ref q2, .ref q3, .int 0, .ref q4, .ref q5, .int (-1), .int (-1), .int (-1), .ref q6, .int 0, .ref q7, .ref q8, .ref q9, .ref q10, .int 0, .int (-1), .int (-1), .int 0, .int 0])), (q1, .inl (cI, 729, .inl (fun _ => 0))), (q2, .inl (cI, 729, .inl (fun _ => 0))), (q3, .inl (cI, 729, .inl (fun _ => 0))), (q4, .inl (cI, 2187, .inl (fun _ => 0))), (q5, .inl (cI, 64, .inl (fun _ => 0))), (q6, .inl (cI, 240, .inl (fun _ => 0))), (q7, .inl (cJ, 2160, .inr (.inl (fun _ => 0)))), (q8, .inl (cJ, 3, .inr (.inl (fun _ => 0)))), (q9, .inl (cJ, 3, .inr (.inl (fun _ => 0)))), (q10, .inl (cJ, 3, .inr (.inl (fun _ => 0))))] H := hP
  have hD : va_D A [(a0, .inr (6, [.ref q1, .ref q2, .ref q3, .int 0, .ref q4, .ref q5, .int (-1), .int (-1), .int (-1), .ref q6, .int 0, .ref q7, .ref q8, .ref q9, .ref q10, .int 0, .int (-1), .int (-1), .int 0, .int 0])), (q1, .inl (cI, 729, .inl (fun _ => 0))), (q2, .inl (cI, 729, .inl (fun _ => 0))), (q3, .inl (cI, 729, .inl (fun _ => 0))), (q4, .inl (cI, 2187, .inl (fun _ => 0))), (q5, .inl (cI, 64, .inl (fun _ => 0))), (q6, .inl (cI, 240, .inl (fun _ => 0))), (q7, .inl (cJ, 2160, .inr (.inl (fun _ => 0)))), (q8, .inl (cJ, 3, .inr (.inl (fun _ => 0)))), (q9, .inl (cJ, 3, .inr (.inl (fun _ => 0)))), (q10, .inl (cJ, 3, .inr (.inl (fun _ => 0))))] := hD
  refine lv_aload_n hx hb dX6_init_127 rfl (lv_at hl 0 rfl) ?_
  refine lv_iconst (v := (-1)) hx hb dX6_init_128 (by decide) ?_
  refine k_put hC hK hP hD hS iX6 tyX6_ok nmX6 0 18 wf_X6_68 rfl (by decide) rfl rfl rfl rfl (Nat.le_of_ble_eq_true rfl) dX6_init_129 (fun H locs hP hD hS => ?_)
  have hP : va_P G cl [(a0, .inr (6, [.ref q1, .ref q2, .ref q3, .int 0, .ref q4, .ref q5, .int (-1), .int (-1), .int (-1), .ref q6, .int 0, .ref q7, .ref q8, .ref q9, .ref q10, .int 0, .int (-1), .int (-1), .int (-1), .int 0])), (q1, .inl (cI, 729, .inl (fun _ => 0))), (q2, .inl (cI, 729, .inl (fun _ => 0))), (q3, .inl (cI, 729, .inl (fun _ => 0))), (q4, .inl (cI, 2187, .inl (fun _ => 0))), (q5, .inl (cI, 64, .inl (fun _ => 0))), (q6, .inl (cI, 240, .inl (fun _ => 0))), (q7, .inl (cJ, 2160, .inr (.inl (fun _ => 0)))), (q8, .inl (cJ, 3, .inr (.inl (fun _ => 0)))), (q9, .inl (cJ, 3, .inr (.inl (fun _ => 0)))), (q10, .inl (cJ, 3, .inr (.inl (fun _ => 0))))] H := hP
  have hD : va_D A [(a0, .inr (6, [.ref q1, .ref q2, .ref q3, .int 0, .ref q4, .ref q5, .int (-1), .int (-1), .int (-1), .ref q6, .int 0, .ref q7, .ref q8, .ref q9, .ref q10, .int 0, .int (-1), .int (-1), .int (-1), .int 0])), (q1, .inl (cI, 729, .inl (fun _ => 0))), (q2, .inl (cI, 729, .inl (fun _ => 0))), (q3, .inl (cI, 729, .inl (fun _ => 0))), (q4, .inl (cI, 2187, .inl (fun _ => 0))), (q5, .inl (cI, 64, .inl (fun _ => 0))), (q6, .inl (cI, 240, .inl (fun _ => 0))), (q7, .inl (cJ, 2160, .inr (.inl (fun _ => 0)))), (q8, .inl (cJ, 3, .inr (.inl (fun _ => 0)))), (q9, .inl (cJ, 3, .inr (.inl (fun _ => 0)))), (q10, .inl (cJ, 3, .inr (.inl (fun _ => 0))))] := hD
  refine lv_aload_n hx hb dX6_init_132 rfl (lv_at hl 0 rfl) ?_
  refine lv_iconst (v := (-1)) hx hb dX6_init_133 (by decide) ?_
  refine k_put hC hK hP hD hS iX6 tyX6_ok nmX6 0 19 wf_X6_71 rfl (by decide) rfl rfl rfl rfl (Nat.le_of_ble_eq_true rfl) dX6_init_134 (fun H locs hP hD hS => ?_)
  have hP : va_P G cl [(a0, .inr (6, [.ref q1, .ref q2, .ref q3, .int 0, .ref q4, .ref q5, .int (-1), .int (-1), .int (-1), .ref q6, .int 0, .ref q7, .ref q8, .ref q9, .ref q10, .int 0, .int (-1), .int (-1), .int (-1), .int (-1)])), (q1, .inl (cI, 729, .inl (fun _ => 0))), (q2, .inl (cI, 729, .inl (fun _ => 0))), (q3, .inl (cI, 729, .inl (fun _ => 0))), (q4, .inl (cI, 2187, .inl (fun _ => 0))), (q5, .inl (cI, 64, .inl (fun _ => 0))), (q6, .inl (cI, 240, .inl (fun _ => 0))), (q7, .inl (cJ, 2160, .inr (.inl (fun _ => 0)))), (q8, .inl (cJ, 3, .inr (.inl (fun _ => 0)))), (q9, .inl (cJ, 3, .inr (.inl (fun _ => 0)))), (q10, .inl (cJ, 3, .inr (.inl (fun _ => 0))))] H := hP
  have hD : va_D A [(a0, .inr (6, [.ref q1, .ref q2, .ref q3, .int 0, .ref q4, .ref q5, .int (-1), .int (-1), .int (-1), .ref q6, .int 0, .ref q7, .ref q8, .ref q9, .ref q10, .int 0, .int (-1), .int (-1), .int (-1), .int (-1)])), (q1, .inl (cI, 729, .inl (fun _ => 0))), (q2, .inl (cI, 729, .inl (fun _ => 0))), (q3, .inl (cI, 729, .inl (fun _ => 0))), (q4, .inl (cI, 2187, .inl (fun _ => 0))), (q5, .inl (cI, 64, .inl (fun _ => 0))), (q6, .inl (cI, 240, .inl (fun _ => 0))), (q7, .inl (cJ, 2160, .inr (.inl (fun _ => 0)))), (q8, .inl (cJ, 3, .inr (.inl (fun _ => 0)))), (q9, .inl (cJ, 3, .inr (.inl (fun _ => 0)))), (q10, .inl (cJ, 3, .inr (.inl (fun _ => 0))))] := hD
  refine lv_iconst (v := 0) hx hb dX6_init_137 (by decide) ?_
  refine lv_istore_n (lv' := [(1, .int 0), (0, .ref a0)]) hx hb dX6_init_138 rfl hl (by decide) rfl (fun ls hl => ?_)
  have hP2 : va_P G cl (trW cI cJ a0 (fun k => [q1, q2, q3, q4, q5, q6, q7, q8, q9, q10].getD k 0) (fun _ => 0) (fun _ => 0)) H := hP.subm [0, 1, 2, 3, 4, 5, 6, 7, 8, 9, 10] rfl
  have hD2 : va_D A (trW cI cJ a0 (fun k => [q1, q2, q3, q4, q5, q6, q7, q8, q9, q10].getD k 0) (fun _ => 0) (fun _ => 0)) := hD.sub [0, 1, 2, 3, 4, 5, 6, 7, 8, 9, 10] (by decide) rfl
  refine tr_outer hC hK (fun f g H locs ls hf hg hP hD hS => ?_) 730 0 _ _ H locs ls (by omega) (by omega) (fun _ => by decide) (fun _ => by decide) hP2 hD2 hS hl
  exact k_vret hC hr hlk hK hP hD hS ((fun k => [q1, q2, q3, q4, q5, q6, q7, q8, q9, q10].getD k 0), f, g) [0, 1, 2, 3, 4, 5, 6, 7, 8, 9, 10] rfl (by decide) ⟨hf, hg⟩ (Nat.le_of_ble_eq_true rfl) (Nat.le_of_ble_eq_true rfl) dX6_init_221

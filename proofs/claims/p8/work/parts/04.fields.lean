
theorem fa_lt (a b : Int32) : a < b ↔ a.toInt < b.toInt := Int32.lt_iff_toInt_lt
theorem fa_le (a b : Int32) : a ≤ b ↔ a.toInt ≤ b.toInt := Int32.le_iff_toInt_le
theorem fa_eq (a b : Int32) : a = b ↔ a.toInt = b.toInt := Int32.toInt_inj.symm
theorem fa_nlt {a b : Int32} (h : ¬ a < b) : b.toInt ≤ a.toInt := Int.not_lt.mp (fun q => h ((fa_lt a b).mpr q))
theorem fa_nle {a b : Int32} (h : ¬ a ≤ b) : b.toInt < a.toInt := Int.not_le.mp (fun q => h ((fa_le a b).mpr q))
theorem fa_ne {a b : Int32} (h : ¬ a = b) : a.toInt ≠ b.toInt := fun q => h ((fa_eq a b).mpr q)

theorem set_same {α : Type} {l : List α} {k : Nat} {x : α} (h : l[k]? = some x) : l.set k x = l := by
  apply List.ext_getElem?
  intro j
  by_cases hj : k = j
  · subst hj
    have hl := (List.getElem?_eq_some_iff.mp h).1
    rw [List.getElem?_set_self hl, h]
  · rw [List.getElem?_set_ne hj]
theorem upd_same {f : Nat → Int32} {k : Nat} {x : Int32} (h : f k = x) : upd f k x = f := by
  funext j
  by_cases hj : j = k
  · subst hj; rw [pk_us, h]
  · rw [pk_un hj]
section KF
variable {p : Program} {l : Launch} {e : Env} {R : Room} {s : State} {m : MethodId} {args : Array Value} {below : List Frame} {meth : Method} {c : Code} {H : Heap} {locs : List Loc} {cells slots : Nat} {Q : State → Prop} {cc : ByteArray} {nL index pc : Nat} {own : String} {G : va_G} {tys : List (ClassId × FieldType)} {A : Nat → Prop} {ws : va_W} {ls : Array Slot} {rest : List Value} {a : Nat}
theorem k_get (hC : CallFix p m c cc nL s args gw own) (hK : va_K G cl tys s) (hP : va_P G cl ws H) {C : String} {T : u_T} {N ci : Nat} (hin : ∀ w ∈ u_ws C T N, w ∈ gw) (q0 k : Nat) (hlink : Cond.fieldLink own index (T k).1 (T k).2.1 (T k).2.2.1 ∈ gw) (hc : cl[ci]? = some (C, T, N)) (hk : k < N) {fs : List Value} {v : Value} (he : ws[q0]? = some (a, .inr (ci, fs))) (hv : fs[k]? = some v) (hdg : decode cc pc = .ok (.getfield index, 3))
    (kk : W p l e R s m args below meth c H locs cells slots Q (F0 m (pc + 3) ls (v :: rest))) : W p l e R s m args below meth c H locs cells slots Q (F0 m pc ls (.ref a :: rest)) :=
  va_get hC.1 hC.2.1 hC.2.2.2.2 hin hC.2.2.2.1 hK hP q0 he hc k hk (hC.2.2.2.2 _ hlink) (fun _ h9 => h9) hv hdg kk
theorem k_getN {host : String} (hC : CallFix p m c cc nL s args gw own) (hN : NW s) (hK : va_K G cl tys s) (hP : va_P G cl ws H) {C : String} {T : u_T} {N ci : Nat} (hin : ∀ w ∈ u_ws C T N, w ∈ gw) (q0 k : Nat) (hlink : Cond.fieldLinkNest own index (T k).1 (T k).2.1 (T k).2.2.1 host ∈ nests) (hc : cl[ci]? = some (C, T, N)) (hk : k < N) {fs : List Value} {v : Value} (he : ws[q0]? = some (a, .inr (ci, fs))) (hv : fs[k]? = some v) (hdg : decode cc pc = .ok (.getfield index, 3))
    (kk : W p l e R s m args below meth c H locs cells slots Q (F0 m (pc + 3) ls (v :: rest))) : W p l e R s m args below meth c H locs cells slots Q (F0 m pc ls (.ref a :: rest)) :=
  va_getN hC.1 hC.2.1 hC.2.2.2.2 hin hC.2.2.2.1 hK hP q0 he hc k hk (va_Nw.use rfl (hN _ hlink)) (fun _ h9 => h9) hv hdg kk
theorem k_put (hC : CallFix p m c cc nL s args gw own) (hK : va_K G cl tys s) (hP : va_P G cl ws H) (hD : va_D A ws) (hS : va_S A s.heap H locs) {C : String} {T : u_T} {N ci : Nat} (hin : ∀ w ∈ u_ws C T N, w ∈ gw) {ty0 : Nat → FieldType} (hty : ∀ k, k < N → parseFieldDescriptor (T k).2.2.1 = some (ty0 k)) (hnm : ∀ a, a < N → ∀ b, b < N → a ≠ b → (T a).2.1 ≠ (T b).2.1) (q0 k : Nat) (hlink : Cond.fieldLink own index (T k).1 (T k).2.1 (T k).2.2.1 ∈ gw) (hc : cl[ci]? = some (C, T, N)) (hk : k < N) (hfin : (T k).2.2.2 = false) {fs : List Value} {v : Value} (hn : narrow (ty0 k) v = v) (hfit : fits (ty0 k) v = true) (he : ws[q0]? = some (a, .inr (ci, fs))) (hl : k < fs.length) (hdg : decode cc pc = .ok (.putfield index, 3))
    (kk : ∀ (H1 : Heap) (locs1 : List Loc), va_P G cl (ws.set q0 (a, .inr (ci, fs.set k v))) H1 → va_D A (ws.set q0 (a, .inr (ci, fs.set k v))) → va_S A s.heap H1 locs1 → W p l e R s m args below meth c H1 locs1 cells slots Q (F0 m (pc + 3) ls rest)) : W p l e R s m args below meth c H locs cells slots Q (F0 m pc ls (v :: .ref a :: rest)) :=
  va_put hC.1 hC.2.1 hC.2.2.2.2 hin ty0 hty hnm hC.2.2.2.1 hK hP hD hS q0 he hc k hk (hC.2.2.2.2 _ hlink) (fun _ h9 => h9) hfin (hty k hk) hn hfit hl hdg kk
theorem k_putN {host : String} (hC : CallFix p m c cc nL s args gw own) (hN : NW s) (hK : va_K G cl tys s) (hP : va_P G cl ws H) (hD : va_D A ws) (hS : va_S A s.heap H locs) {C : String} {T : u_T} {N ci : Nat} (hin : ∀ w ∈ u_ws C T N, w ∈ gw) {ty0 : Nat → FieldType} (hty : ∀ k, k < N → parseFieldDescriptor (T k).2.2.1 = some (ty0 k)) (hnm : ∀ a, a < N → ∀ b, b < N → a ≠ b → (T a).2.1 ≠ (T b).2.1) (q0 k : Nat) (hlink : Cond.fieldLinkNest own index (T k).1 (T k).2.1 (T k).2.2.1 host ∈ nests) (hc : cl[ci]? = some (C, T, N)) (hk : k < N) (hfin : (T k).2.2.2 = false) {fs : List Value} {v : Value} (hn : narrow (ty0 k) v = v) (hfit : fits (ty0 k) v = true) (he : ws[q0]? = some (a, .inr (ci, fs))) (hl : k < fs.length) (hdg : decode cc pc = .ok (.putfield index, 3))
    (kk : ∀ (H1 : Heap) (locs1 : List Loc), va_P G cl (ws.set q0 (a, .inr (ci, fs.set k v))) H1 → va_D A (ws.set q0 (a, .inr (ci, fs.set k v))) → va_S A s.heap H1 locs1 → W p l e R s m args below meth c H1 locs1 cells slots Q (F0 m (pc + 3) ls rest)) : W p l e R s m args below meth c H locs cells slots Q (F0 m pc ls (v :: .ref a :: rest)) :=
  va_putN hC.1 hC.2.1 hC.2.2.2.2 hin ty0 hty hnm hC.2.2.2.1 hK hP hD hS q0 he hc k hk (va_Nw.use rfl (hN _ hlink)) (fun _ h9 => h9) hfin (hty k hk) hn hfit hl hdg kk
theorem k_putF (hC : CallFix p m c cc nL s args gw own) (hini : meth.name = "<init>") (hK : va_K G cl tys s) (hP : va_P G cl ws H) (hD : va_D A ws) (hS : va_S A s.heap H locs) {C : String} {T : u_T} {N ci : Nat} (hin : ∀ w ∈ u_ws C T N, w ∈ gw) {ty0 : Nat → FieldType} (hty : ∀ k, k < N → parseFieldDescriptor (T k).2.2.1 = some (ty0 k)) (hnm : ∀ a, a < N → ∀ b, b < N → a ≠ b → (T a).2.1 ≠ (T b).2.1) (q0 k : Nat) (hlink : Cond.fieldLink own index (T k).1 (T k).2.1 (T k).2.2.1 ∈ gw) (hc : cl[ci]? = some (C, T, N)) (hk : k < N) (hfin : (T k).2.2.2 = true) (hdecl : (T k).1 = own) {fs : List Value} {v : Value} (hn : narrow (ty0 k) v = v) (hfit : fits (ty0 k) v = true) (he : ws[q0]? = some (a, .inr (ci, fs))) (hl : k < fs.length) (hdg : decode cc pc = .ok (.putfield index, 3))
    (kk : ∀ (H1 : Heap) (locs1 : List Loc), va_P G cl (ws.set q0 (a, .inr (ci, fs.set k v))) H1 → va_D A (ws.set q0 (a, .inr (ci, fs.set k v))) → va_S A s.heap H1 locs1 → W p l e R s m args below meth c H1 locs1 cells slots Q (F0 m (pc + 3) ls rest)) : W p l e R s m args below meth c H locs cells slots Q (F0 m pc ls (v :: .ref a :: rest)) :=
  va_putF hC.1 hC.2.1 hC.2.2.2.2 hin ty0 hty hnm hC.2.2.2.1 hK hP hD hS q0 he hc k hk (hC.2.2.2.2 _ hlink) (fun _ h9 => h9) hfin hini hdecl (hty k hk) hn hfit hl hdg kk
theorem k_obj (hC : CallFix p m c cc nL s args gw own) (hlink : Cond.methodLink own index Lib.objectInit ∈ gw) (hi : Cond.instanceMethod Lib.objectInit ∈ gw) (hco : Cond.code Lib.objectInit ⟨#[0xb1]⟩ 1 none ∈ gw) (hsz : ls.size = nL) (hdg : decode cc pc = .ok (.invokespecial index, 3)) (hfr : 1 ≤ R.frames) (hlo : (rest.map fun v => v.category).sum + 12 ≤ R.locals)
    (kk : W p l e R s m args below meth c H locs cells slots Q (F0 m (pc + 3) ls rest)) : W p l e R s m args below meth c H locs cells slots Q (F0 m pc ls (.ref a :: rest)) := by
  refine W.objInit (g := F0 m pc ls (.ref a :: rest)) hC.1 hC.2.1 hC.2.2.2.1 (hC.2.2.2.2 _ hlink) (hC.2.2.2.2 _ hi) (hC.2.2.2.2 _ hco) rfl (by rw [hC.2.2.1]; exact hsz) rfl hdg hfr (by show 2 * 0 + _ + 12 ≤ _; omega) ?_
  exact kk
theorem k_new (hC : CallFix p m c cc nL s args gw own) (hK : va_K G cl tys s) (hP : va_P G cl ws H) (hD : va_D A ws) (hS : va_S A s.heap H locs) (hA : ∀ q, s.heap.size ≤ q → A q) {C : String} {T : u_T} {N ci : Nat} (hin : ∀ w ∈ u_ws C T N, w ∈ gw) {ty0 : Nat → FieldType} (hty : ∀ k, k < N → parseFieldDescriptor (T k).2.2.1 = some (ty0 k)) (hcl : Cond.classLink own index C ∈ gw) (hinst : Cond.instantiable C N ∈ gw) (hini : Cond.initialized C ∈ gw) (hc : cl[ci]? = some (C, T, N)) {fs : List Value} (hfs : ∀ j, j < N → defaultValue (ty0 j) = vp_V fs j) (hcells : cells + 1 ≤ R.cells) (hslots : slots + N ≤ R.slots) (hdg : decode cc pc = .ok (.new index, 3))
    (kk : ∀ (q : Nat) (H1 : Heap), va_P G cl (ws ++ [(q, .inr (ci, fs))]) H1 → va_D A (ws ++ [(q, .inr (ci, fs))]) → va_S A s.heap H1 locs → W p l e R s m args below meth c H1 locs (cells + 1) (slots + N) Q (F0 m (pc + 3) ls (.ref q :: rest))) : W p l e R s m args below meth c H locs cells slots Q (F0 m pc ls rest) :=
  va_new hC.1 hC.2.1 hC.2.2.2.2 hin ty0 hty hC.2.2.2.1 (hC.2.2.2.2 _ hcl) (hC.2.2.2.2 _ hinst) (hC.2.2.2.2 _ hini) hK hP hD hS hA hc hfs hcells hslots hdg kk
theorem k_in {i : Int32} {k n : Nat} (hi : i.toInt = k) (hk : k < n) : vp_in i n := vp_in_iff.mpr ⟨by omega, by omega⟩
theorem k_cl_ {i : Int32} {k : Nat} (hi : i.toInt = k) : i.toNatClampNeg = k := by rw [Int32.toNatClampNeg]; omega
theorem k_iald (hC : CallFix p m c cc nL s args gw own) {cA cJ cB cZ : ClassId} (hK : va_K G cl (TY cA cJ cB cZ) s) (hP : va_P G cl ws H) (q0 k : Nat) {n : Nat} {f : Nat → Int32} {i v : Int32} (ha : ws[q0]? = some (a, .inl (cA, n, .inl f))) (hi : i.toInt = k) (hk : k < n) (hv : f k = v) (hdg : decode cc pc = .ok (.iaload, 1))
    (kk : W p l e R s m args below meth c H locs cells slots Q (F0 m (pc + 1) ls (.int v :: rest))) : W p l e R s m args below meth c H locs cells slots Q (F0 m pc ls (.int i :: .ref a :: rest)) := by
  refine va_iald hC.1 hC.2.1 hK hP q0 0 ha rfl (k_in hi hk) hdg ?_
  rw [k_cl_ hi, hv]; exact kk
theorem k_lald (hC : CallFix p m c cc nL s args gw own) {cI cA cB cZ : ClassId} (hK : va_K G cl (TY cI cA cB cZ) s) (hP : va_P G cl ws H) (q0 k : Nat) {n : Nat} {f : Nat → Int64} {i : Int32} {v : Int64} (ha : ws[q0]? = some (a, .inl (cA, n, .inr (.inl f)))) (hi : i.toInt = k) (hk : k < n) (hv : f k = v) (hdg : decode cc pc = .ok (.laload, 1))
    (kk : W p l e R s m args below meth c H locs cells slots Q (F0 m (pc + 1) ls (.long v :: rest))) : W p l e R s m args below meth c H locs cells slots Q (F0 m pc ls (.int i :: .ref a :: rest)) := by
  refine va_lald hC.1 hC.2.1 hK hP q0 1 ha rfl (k_in hi hk) hdg ?_
  rw [k_cl_ hi, hv]; exact kk
theorem k_bald (hC : CallFix p m c cc nL s args gw own) {cI cJ cA cZ : ClassId} (hK : va_K G cl (TY cI cJ cA cZ) s) (hP : va_P G cl ws H) (q0 k : Nat) {n : Nat} {f : Nat → Int32} {i v : Int32} (ha : ws[q0]? = some (a, .inl (cA, n, .inl f))) (hi : i.toInt = k) (hk : k < n) (hv : f k = v) (hdg : decode cc pc = .ok (.baload, 1))
    (kk : W p l e R s m args below meth c H locs cells slots Q (F0 m (pc + 1) ls (.int v :: rest))) : W p l e R s m args below meth c H locs cells slots Q (F0 m pc ls (.int i :: .ref a :: rest)) := by
  refine va_bald hC.1 hC.2.1 hK hP q0 2 ha rfl (k_in hi hk) hdg ?_
  rw [k_cl_ hi, hv]; exact kk
theorem k_zald (hC : CallFix p m c cc nL s args gw own) {cI cJ cB cA : ClassId} (hK : va_K G cl (TY cI cJ cB cA) s) (hP : va_P G cl ws H) (q0 k : Nat) {n : Nat} {f : Nat → Int32} {i v : Int32} (ha : ws[q0]? = some (a, .inl (cA, n, .inl f))) (hi : i.toInt = k) (hk : k < n) (hv : f k = v) (hdg : decode cc pc = .ok (.baload, 1))
    (kk : W p l e R s m args below meth c H locs cells slots Q (F0 m (pc + 1) ls (.int v :: rest))) : W p l e R s m args below meth c H locs cells slots Q (F0 m pc ls (.int i :: .ref a :: rest)) := by
  refine va_zald hC.1 hC.2.1 hK hP q0 3 ha rfl (k_in hi hk) hdg ?_
  rw [k_cl_ hi, hv]; exact kk
theorem k_iast (hC : CallFix p m c cc nL s args gw own) {cA cJ cB cZ : ClassId} (hK : va_K G cl (TY cA cJ cB cZ) s) (hP : va_P G cl ws H) (hD : va_D A ws) (hS : va_S A s.heap H locs) (q0 k : Nat) {n : Nat} {f : Nat → Int32} {i x : Int32} (ha : ws[q0]? = some (a, .inl (cA, n, .inl f))) (hi : i.toInt = k) (hk : k < n) (hdg : decode cc pc = .ok (.iastore, 1))
    (kk : ∀ (H1 : Heap) (locs1 : List Loc), va_P G cl (ws.set q0 (a, .inl (cA, n, .inl (upd f k x)))) H1 → va_D A (ws.set q0 (a, .inl (cA, n, .inl (upd f k x)))) → va_S A s.heap H1 locs1 → W p l e R s m args below meth c H1 locs1 cells slots Q (F0 m (pc + 1) ls rest)) : W p l e R s m args below meth c H locs cells slots Q (F0 m pc ls (.int x :: .int i :: .ref a :: rest)) := by
  refine va_iast hC.1 hC.2.1 hK hP hD hS q0 0 ha rfl (k_in hi hk) hdg ?_
  rw [k_cl_ hi]; exact kk
theorem k_last (hC : CallFix p m c cc nL s args gw own) {cI cA cB cZ : ClassId} (hK : va_K G cl (TY cI cA cB cZ) s) (hP : va_P G cl ws H) (hD : va_D A ws) (hS : va_S A s.heap H locs) (q0 k : Nat) {n : Nat} {f : Nat → Int64} {i : Int32} {x : Int64} (ha : ws[q0]? = some (a, .inl (cA, n, .inr (.inl f)))) (hi : i.toInt = k) (hk : k < n) (hdg : decode cc pc = .ok (.lastore, 1))
    (kk : ∀ (H1 : Heap) (locs1 : List Loc), va_P G cl (ws.set q0 (a, .inl (cA, n, .inr (.inl (vp_updL f k x))))) H1 → va_D A (ws.set q0 (a, .inl (cA, n, .inr (.inl (vp_updL f k x))))) → va_S A s.heap H1 locs1 → W p l e R s m args below meth c H1 locs1 cells slots Q (F0 m (pc + 1) ls rest)) : W p l e R s m args below meth c H locs cells slots Q (F0 m pc ls (.long x :: .int i :: .ref a :: rest)) := by
  refine va_last hC.1 hC.2.1 hK hP hD hS q0 1 ha rfl (k_in hi hk) hdg ?_
  rw [k_cl_ hi]; exact kk
theorem k_bast (hC : CallFix p m c cc nL s args gw own) {cI cJ cA cZ : ClassId} (hK : va_K G cl (TY cI cJ cA cZ) s) (hP : va_P G cl ws H) (hD : va_D A ws) (hS : va_S A s.heap H locs) (q0 k : Nat) {n : Nat} {f : Nat → Int32} {i x : Int32} (z : Int32) (ha : ws[q0]? = some (a, .inl (cA, n, .inl f))) (hi : i.toInt = k) (hk : k < n) (hz : vp_nar .byte x = z) (hdg : decode cc pc = .ok (.bastore, 1))
    (kk : ∀ (H1 : Heap) (locs1 : List Loc), va_P G cl (ws.set q0 (a, .inl (cA, n, .inl (upd f k z)))) H1 → va_D A (ws.set q0 (a, .inl (cA, n, .inl (upd f k z)))) → va_S A s.heap H1 locs1 → W p l e R s m args below meth c H1 locs1 cells slots Q (F0 m (pc + 1) ls rest)) : W p l e R s m args below meth c H locs cells slots Q (F0 m pc ls (.int x :: .int i :: .ref a :: rest)) := by
  refine va_bast hC.1 hC.2.1 hK hP hD hS q0 2 ha rfl (k_in hi hk) hdg ?_
  rw [k_cl_ hi, hz]; exact kk
theorem k_zast (hC : CallFix p m c cc nL s args gw own) {cI cJ cB cA : ClassId} (hK : va_K G cl (TY cI cJ cB cA) s) (hP : va_P G cl ws H) (hD : va_D A ws) (hS : va_S A s.heap H locs) (q0 k : Nat) {n : Nat} {f : Nat → Int32} {i x : Int32} (z : Int32) (ha : ws[q0]? = some (a, .inl (cA, n, .inl f))) (hi : i.toInt = k) (hk : k < n) (hz : vp_nar .boolean x = z) (hdg : decode cc pc = .ok (.bastore, 1))
    (kk : ∀ (H1 : Heap) (locs1 : List Loc), va_P G cl (ws.set q0 (a, .inl (cA, n, .inl (upd f k z)))) H1 → va_D A (ws.set q0 (a, .inl (cA, n, .inl (upd f k z)))) → va_S A s.heap H1 locs1 → W p l e R s m args below meth c H1 locs1 cells slots Q (F0 m (pc + 1) ls rest)) : W p l e R s m args below meth c H locs cells slots Q (F0 m pc ls (.int x :: .int i :: .ref a :: rest)) := by
  refine va_zast hC.1 hC.2.1 hK hP hD hS q0 3 ha rfl (k_in hi hk) hdg ?_
  rw [k_cl_ hi, hz]; exact kk
theorem k_alen (hC : CallFix p m c cc nL s args gw own) (hK : va_K G cl tys s) (hP : va_P G cl ws H) (q0 t0 : Nat) {cA : ClassId} {x : vp_A} {ty : FieldType} (v : Int32) (ha : ws[q0]? = some (a, .inl (cA, x))) (ht : tys[t0]? = some (cA, ty)) (hv : Int32.ofNat x.1 = v) (hdg : decode cc pc = .ok (.arraylength, 1))
    (kk : W p l e R s m args below meth c H locs cells slots Q (F0 m (pc + 1) ls (.int v :: rest))) : W p l e R s m args below meth c H locs cells slots Q (F0 m pc ls (.ref a :: rest)) := va_alen hC.1 hC.2.1 hK hP q0 t0 ha ht hv hdg kk
theorem k_iastS (hC : CallFix p m c cc nL s args gw own) {cA cJ cB cZ : ClassId} (hK : va_K G cl (TY cA cJ cB cZ) s) (hP : va_P G cl ws H) (hD : va_D A ws) (hS : va_S A s.heap H locs) (q0 k : Nat) {n : Nat} {f : Nat → Int32} {i x : Int32} (ha : ws[q0]? = some (a, .inl (cA, n, .inl f))) (hi : i.toInt = k) (hk : k < n) (hz : f k = x) (hdg : decode cc pc = .ok (.iastore, 1))
    (kk : ∀ (H1 : Heap) (locs1 : List Loc), va_P G cl ws H1 → va_D A ws → va_S A s.heap H1 locs1 → W p l e R s m args below meth c H1 locs1 cells slots Q (F0 m (pc + 1) ls rest)) : W p l e R s m args below meth c H locs cells slots Q (F0 m pc ls (.int x :: .int i :: .ref a :: rest)) := by
  refine va_iast hC.1 hC.2.1 hK hP hD hS q0 0 ha rfl (k_in hi hk) hdg ?_
  rw [k_cl_ hi, upd_same hz, set_same ha]; exact kk
theorem k_bastS (hC : CallFix p m c cc nL s args gw own) {cI cJ cA cZ : ClassId} (hK : va_K G cl (TY cI cJ cA cZ) s) (hP : va_P G cl ws H) (hD : va_D A ws) (hS : va_S A s.heap H locs) (q0 k : Nat) {n : Nat} {f : Nat → Int32} {i x : Int32} (ha : ws[q0]? = some (a, .inl (cA, n, .inl f))) (hi : i.toInt = k) (hk : k < n) (hz : f k = (vp_nar .byte x)) (hdg : decode cc pc = .ok (.bastore, 1))
    (kk : ∀ (H1 : Heap) (locs1 : List Loc), va_P G cl ws H1 → va_D A ws → va_S A s.heap H1 locs1 → W p l e R s m args below meth c H1 locs1 cells slots Q (F0 m (pc + 1) ls rest)) : W p l e R s m args below meth c H locs cells slots Q (F0 m pc ls (.int x :: .int i :: .ref a :: rest)) := by
  refine va_bast hC.1 hC.2.1 hK hP hD hS q0 2 ha rfl (k_in hi hk) hdg ?_
  rw [k_cl_ hi, upd_same hz, set_same ha]; exact kk
theorem k_zastS (hC : CallFix p m c cc nL s args gw own) {cI cJ cB cA : ClassId} (hK : va_K G cl (TY cI cJ cB cA) s) (hP : va_P G cl ws H) (hD : va_D A ws) (hS : va_S A s.heap H locs) (q0 k : Nat) {n : Nat} {f : Nat → Int32} {i x : Int32} (ha : ws[q0]? = some (a, .inl (cA, n, .inl f))) (hi : i.toInt = k) (hk : k < n) (hz : f k = (vp_nar .boolean x)) (hdg : decode cc pc = .ok (.bastore, 1))
    (kk : ∀ (H1 : Heap) (locs1 : List Loc), va_P G cl ws H1 → va_D A ws → va_S A s.heap H1 locs1 → W p l e R s m args below meth c H1 locs1 cells slots Q (F0 m (pc + 1) ls rest)) : W p l e R s m args below meth c H locs cells slots Q (F0 m pc ls (.int x :: .int i :: .ref a :: rest)) := by
  refine va_zast hC.1 hC.2.1 hK hP hD hS q0 3 ha rfl (k_in hi hk) hdg ?_
  rw [k_cl_ hi, upd_same hz, set_same ha]; exact kk
end KF

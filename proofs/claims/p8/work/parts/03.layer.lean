
/-! my own layer: one list of words for all methods, one form of contract, one row a call -/
def gw : List Cond := lw_tbl.filter goodWord
theorem gm {w : Cond} (h : w ∈ lw_tbl) (hg : goodWord w = true) : w ∈ gw := List.mem_filter.mpr ⟨h, hg⟩
theorem gw_of (l : List Cond) (h : l.all (fun w => decide (w ∈ lw_tbl) && goodWord w) = true) : ∀ w ∈ l, w ∈ gw := by
  intro w hw
  have h1 := List.all_eq_true.mp h w hw
  simp only [Bool.and_eq_true, decide_eq_true_eq] at h1
  exact gm h1.1 h1.2
theorem gw_good {w : Cond} (h : w ∈ gw) : (w.onTables && w.keeps) = true ∨ ∃ ty, w = .arrayClass ty := good_of_word (List.mem_filter.mp h).2
abbrev cl : List vw_C := [(RX0, TX0, 7), (RX1, TX1, 5), (RX2, TX2, 8), (RX3, TX3, 5), (RX4, TX4, 11), (RX5, TX5, 7), (RX6, TX6, 20), (RX7, TX7, 15), (RX8, TX8, 8), (RX9, TX9, 9), (RX10, TX10, 69)]
def isNest : Cond → Bool
  | .fieldLinkNest _ _ _ _ _ _ => true
  | .methodLinkNest _ _ _ _ => true
  | _ => false
def nests : List Cond := lw_tbl.filter isNest
theorem nm_ {w : Cond} (h : w ∈ lw_tbl) (hg : isNest w = true) : w ∈ nests := List.mem_filter.mpr ⟨h, hg⟩
def NW (U : State) : Prop := ∀ w ∈ nests, va_Nw w U
theorem NW.warm {s U : State} (hW : s.WarmedH U.vm) (h : NW s) : NW U := by
  intro w hw
  have hs := h w hw
  have hn := (List.mem_filter.mp hw).2
  cases w <;> first | (exact va_Nw.warmF hW hs) | (exact va_Nw.warmM hW hs) | (exact absurd hn (by simp [isNest]))
theorem NW.same {u U : State} (hv : u.vm = U.vm) (h : NW u) : NW U := by
  intro w hw
  have hs := h w hw
  have hn := (List.mem_filter.mp hw).2
  refine va_Nw.same ?_ hv hs
  cases w <;> first | rfl | (exact absurd hn (by simp [isNest]))
abbrev TY (cI cJ cB cZ : ClassId) : List (ClassId × FieldType) := [(cI, .int), (cJ, .long), (cB, .byte), (cZ, .boolean)]
/-- the table of own words: a static row of 19 longs, outside A -/
def SW (A : Nat → Prop) (U : State) (H : Heap) : Prop := ∃ (t : Nat) (f : Nat → Value), va_Z "StoneTrust$Tape" "OWN_WORDS" "[J" (.ref t) A U H ∧ va_T .long t 19 f A U H ∧ ∀ j, j < 19 → ∃ y : Int64, f j = .long y
theorem SW.moved {A : Nat → Prop} {u U : State} {H : Heap} (hvm : u.vm.Alike U.vm) (h : SW A u H) : SW A U H := by
  obtain ⟨t, f, h1, h2, h3⟩ := h
  exact ⟨t, f, h1.moved hvm, h2.moved hvm, h3⟩
theorem SW.kept {A : Nat → Prop} {U : State} {H H1 : Heap} (h : SW A U H) (hq : ∀ a : Nat, a < H.size → ¬ A a → H1[a]? = H[a]?) : SW A U H1 := by
  obtain ⟨t, f, h1, h2, h3⟩ := h
  exact ⟨t, f, h1.kept hq, h2.kept hq, h3⟩
theorem SW.narrow {A B : Nat → Prop} {U : State} {H : Heap} (h : SW A U H) (hAB : ∀ q, B q → A q) : SW B U H := by
  obtain ⟨t, f, h1, h2, h3⟩ := h
  exact ⟨t, f, h1.narrow hAB, h2.narrow hAB, h3⟩
/-- a method's start: its world, the tables, the nest's links, the static row -/
def PW (G : va_G) (tys : List (ClassId × FieldType)) (av : List Value) (ws : va_W) (sz : Nat) : Array Value → State → Prop := va_Pc av (fun U => U.heap.size = sz ∧ va_P G cl ws U.heap ∧ va_K G cl tys U ∧ va_D (fun _ => True) ws ∧ NW U ∧ SW (va_A ws sz) U U.heap)
def BW (G : va_G) (tys : List (ClassId × FieldType)) (A : Nat → Prop) (ws : va_W) (t : State) : Prop := va_P G cl ws t.heap ∧ va_K G cl tys t ∧ va_D A ws
def QI {S : Type} (G : va_G) (tys : List (ClassId × FieldType)) (post : Int32 → S → Prop) (w1 : S → va_W) (A : Nat → Prop) : Array Value → State → Outcome → State → Prop := va_Qi post (fun u => BW G tys A (w1 u)) A
def QL {S : Type} (G : va_G) (tys : List (ClassId × FieldType)) (post : Int64 → S → Prop) (w1 : S → va_W) (A : Nat → Prop) : Array Value → State → Outcome → State → Prop := va_Ql post (fun u => BW G tys A (w1 u)) A
def QV {S : Type} (G : va_G) (tys : List (ClassId × FieldType)) (post : S → Prop) (w1 : S → va_W) (A : Nat → Prop) : Array Value → State → Outcome → State → Prop := va_Qv post (fun u => BW G tys A (w1 u)) A
/-- the answer is the reference ra -/
def QR {S : Type} (G : va_G) (tys : List (ClassId × FieldType)) (post : S → Prop) (ra : S → Nat) (w1 : S → va_W) (A : Nat → Prop) : Array Value → State → Outcome → State → Prop := va_Qr post (fun u a t => a = ra u ∧ BW G tys A (w1 u) t) A
def Con (l : Launch) (G : va_G) (tys : List (ClassId × FieldType)) (y : MethodName) (cc : ByteArray) (nL : Nat) (ret : Option FieldType) (rm : Room) (av : List Value) (w0 : va_W) (QA : (Nat → Prop) → Array Value → State → Outcome → State → Prop) : Prop :=
  ∀ sz, Met l y (.code y cc nL ret :: gw) rm (PW G tys av w0 sz) (QA (va_A w0 sz)) rm.cells rm.slots (va_A w0 sz)
theorem va_P.subm {D : va_G} {cl : List vw_C} {ws ws' : va_W} {H : Heap} (h : va_P D cl ws H) (is : List Nat) (hs : is.map (fun i => ws[i]?) = ws'.map some) : va_P D cl ws' H := by
  intro k q hk
  have h1 : (is.map (fun i => ws[i]?))[k]? = some (some q) := by rw [hs, List.getElem?_map, hk]; rfl
  rw [List.getElem?_map] at h1
  cases hi : is[k]? with
  | none => rw [hi] at h1; cases h1
  | some i => rw [hi] at h1; exact h i q (Option.some.inj h1)
theorem PW.blind {G : va_G} {tys : List (ClassId × FieldType)} {av : List Value} {ws : va_W} {sz : Nat} : FrameBlind (PW G tys av ws sz) := by
  intro a U g mk h
  obtain ⟨h0, h1, h2, h3, h4, h5, h6⟩ := h
  exact ⟨h0, h1, h2, va_K.moved (u := U) (U := U.calling g mk a) (Vm.Alike.refl U.vm) h3, h4, NW.same (u := U) (U := U.calling g mk a) rfl h5, SW.moved (u := U) (U := U.calling g mk a) (Vm.Alike.refl U.vm) h6⟩
/-- into a method's body -/
theorem k_met {l : Launch} {G : va_G} {tys : List (ClassId × FieldType)} {y : MethodName} {cc : ByteArray} {nL : Nat} {ret : Option FieldType} {rm : Room} {av : List Value} {w0 : va_W} {QA : (Nat → Prop) → Array Value → State → Outcome → State → Prop}
    (hy : plainName y.cls = true) (hn : (lg_sl av).length ≤ nL)
    (body : ∀ (p : Program) (e : Env) (s : State) (m : MethodId) (below : List Frame) (meth : Method) (c : Code) (A : Nat → Prop) (ls : Array Slot), CallFix p m c cc nL s av.toArray gw y.cls → meth.sig.returnType = ret → meth.locks = false → meth.name = y.name → NW s → SW A s s.heap → va_K G cl tys s → (∀ q, s.heap.size ≤ q → A q) →
      va_P G cl w0 s.heap → va_D A w0 → va_S A s.heap s.heap [] → lv_has ls nL (lv_args 0 av) → W p l e rm s m av.toArray below meth c s.heap [] 0 0 (MQ below (QA A) av.toArray s rm.cells rm.slots A) (F0 m 0 ls [])) :
    Con l G tys y cc nL ret rm av w0 QA := by
  intro sz
  refine Met.ofW (cc := cc) (maxL := nL) (ret := ret) hy rfl ?_
  intro p e s m args below meth c s₁ B hml hv
  obtain ⟨rfl, hsz, hP, hK, hD0, hN, hZ⟩ := hv
  subst hsz
  have hts := atoms_spec (ws := .code y cc nL ret :: gw) B.pre
  have hl := lv_entry av (n := nL) hn
  rw [lg_entry_eq]
  exact body p e s m below meth c _ _ ⟨B.exec, B.bytes, hml, findClass_of_methodNamed B.named, fun w hw => hts w (List.mem_cons_of_mem _ hw)⟩ B.returns B.notSynchronized (name_of_methodNamed B.named B.method).1 hN hZ hK (fun q h => Or.inr h) hP (hD0.self (sz := s.heap.size)) va_S.rf hl
theorem Met.ofWF {l : Launch} {y : MethodName} {ws ws' : List Cond} {rm : Room} {Pc : Array Value → State → Prop} {Qc : Array Value → State → Outcome → State → Prop} {mc ms : Nat} {free : Addr → Prop} {cc : ByteArray} {maxL : Nat} {ret : Option FieldType}
    (hy : plainFor y = true) (hw : ws = Cond.code y cc maxL ret :: ws')
    (body : ∀ p e s m args below meth c s₁, BodyLoose p l y (headSpec ws rm) cc maxL ret e s m args below meth c s₁ → c.maxLocals = maxL → Pc args s →
      W p l e (headSpec ws rm).room s m args below meth c s.heap [] 0 0 (MQ below Qc args s mc ms free) (entryFrame m args maxL)) : Met l y ws rm Pc Qc mc ms free := by
  refine MetFree.of_bodySF (code := cc) (maxLocals := maxL) (ret := ret) hy ?_ ?_
  · intro args s m h hn
    obtain ⟨meth, c, h1, h2, h3, h4, h5, h6, -, -⟩ := Cond.code_spec hn (atoms_spec (ws := ws) h _ (by rw [hw]; exact List.mem_cons_self))
    exact ⟨meth, c, h1, h2, h3, h4, h5, h6⟩
  · intro p e s m args below meth c s₁ B hml hP _
    have hh0 : s₁.heap = s.heap := by rw [B.state]; rfl
    obtain ⟨t, a1, o, b1, b2, b3⟩ := body p e s m args below meth c s₁ B hml hP s₁ hh0 (Stand.of_body B)
    exact ⟨t, o, a1, b1, b2, ⟨b3.1, b3.2⟩⟩
/-- the same, of a class that has entries of its own for other methods -/
theorem k_metF {l : Launch} {G : va_G} {tys : List (ClassId × FieldType)} {y : MethodName} {cc : ByteArray} {nL : Nat} {ret : Option FieldType} {rm : Room} {av : List Value} {w0 : va_W} {QA : (Nat → Prop) → Array Value → State → Outcome → State → Prop}
    (hy : plainFor y = true) (hn : (lg_sl av).length ≤ nL)
    (body : ∀ (p : Program) (e : Env) (s : State) (m : MethodId) (below : List Frame) (meth : Method) (c : Code) (A : Nat → Prop) (ls : Array Slot), CallFix p m c cc nL s av.toArray gw y.cls → meth.sig.returnType = ret → meth.locks = false → meth.name = y.name → NW s → SW A s s.heap → va_K G cl tys s → (∀ q, s.heap.size ≤ q → A q) →
      va_P G cl w0 s.heap → va_D A w0 → va_S A s.heap s.heap [] → lv_has ls nL (lv_args 0 av) → W p l e rm s m av.toArray below meth c s.heap [] 0 0 (MQ below (QA A) av.toArray s rm.cells rm.slots A) (F0 m 0 ls [])) :
    Con l G tys y cc nL ret rm av w0 QA := by
  intro sz
  refine Met.ofWF (cc := cc) (maxL := nL) (ret := ret) hy rfl ?_
  intro p e s m args below meth c s₁ B hml hv
  obtain ⟨rfl, hsz, hP, hK, hD0, hN, hZ⟩ := hv
  subst hsz
  have hts := atoms_spec (ws := .code y cc nL ret :: gw) B.pre
  have hl := lv_entry av (n := nL) hn
  rw [lg_entry_eq]
  exact body p e s m below meth c _ _ ⟨B.exec, B.bytes, hml, findClass_of_methodNamed B.named, fun w hw => hts w (List.mem_cons_of_mem _ hw)⟩ B.returns B.notSynchronized (name_of_methodNamed B.named B.method).1 hN hZ hK (fun q h => Or.inr h) hP (hD0.self (sz := s.heap.size)) va_S.rf hl
/-- what a call wants of its method -/
def MI (y : MethodName) (bytes : ByteArray) (maxL : Nat) (ret : Option FieldType) (n : Nat) : Prop := Cond.code y bytes maxL ret ∈ gw ∧ Cond.initialized y.cls ∈ gw ∧ y.cls ≠ "java/lang/invoke/MethodHandle" ∧ y.cls ≠ "java/lang/invoke/VarHandle" ∧ (parseMethodDescriptor y.desc).map (fun d => d.parameters.length) = some n
theorem mi_good {y : MethodName} {bytes : ByteArray} {maxL : Nat} {ret : Option FieldType} (h : Cond.code y bytes maxL ret ∈ gw) : GoodIn gw (.code y bytes maxL ret :: gw) := fun w hw => (List.mem_cons.mp hw).elim (fun e => by subst e; exact ⟨h, gw_good h⟩) (fun h2 => ⟨h2, gw_good h2⟩)
section KC
variable {p : Program} {l : Launch} {e : Env} {R : Room} {s : State} {m : MethodId} {args : Array Value} {below : List Frame} {meth : Method} {c : Code} {H : Heap} {locs : List Loc} {cells slots : Nat} {Q : State → Prop} {cc bytes : ByteArray} {nL maxL index n pc : Nat} {own : String} {y : MethodName} {ret : Option FieldType} {rm : Room} {G : va_G} {tys : List (ClassId × FieldType)} {A : Nat → Prop} {ws wc wr : va_W} {ls : Array Slot} {As st0 rest : List Value} {b : Nat} {QA : (Nat → Prop) → Array Value → State → Outcome → State → Prop}
theorem k_pre {av : List Value} (hN : NW s) (hZ : SW A s s.heap) (hS : va_S A s.heap H locs) (hA : ∀ q, s.heap.size ≤ q → A q) (hK : va_K G cl tys s) (hP : va_P G cl ws H) (hD : va_D A ws) (isC : List Nat) (hC : isC.map (fun i => ws[i]?) = wc.map some) (hn : va_nd isC = true) : ∀ U : State, U.heap = H → s.WarmedH U.vm → PW G tys av wc H.size av.toArray U := by
  intro U hU hW
  exact ⟨rfl, by rw [hU], by rw [hU]; exact hP.subm isC hC, va_K.moved hW.alike hK, (hD.sub isC hn hC).weaken (fun _ _ _ _ => trivial), NW.warm hW hN, by rw [hU]; exact ((hZ.kept hS.2.1).moved hW.alike).narrow (va_free (wc := wc) hD hS hA isC hC)⟩
theorem k_cb (hC : CallFix p m c cc nL s args gw own) (hmi : MI y bytes maxL ret n) (hlink : Cond.methodLink own index y ∈ gw) (hR : rm.frames + 1 ≤ R.frames ∧ 8 + (maxL + 11) + rm.locals ≤ R.locals) : CallB R s args own index y bytes maxL ret (.code y bytes maxL ret :: gw) rm rm.cells rm.slots n :=
  callB_of n hC.2.2.2.2 (mi_good hmi.1) rfl rfl rfl (hC.2.2.2.2 _ hmi.2.1) (hC.2.2.2.2 _ hlink) hmi.2.2 hR
theorem k_cn {host : String} (hC : CallFix p m c cc nL s args gw own) (hN : NW s) (hmi : MI y bytes maxL ret n) (hlink : Cond.methodLinkNest own index y host ∈ nests) (hR : rm.frames + 1 ≤ R.frames ∧ 8 + (maxL + 11) + rm.locals ≤ R.locals) : va_CN R s args own index y host bytes maxL ret (.code y bytes maxL ret :: gw) rm rm.cells rm.slots n :=
  va_cnB n hC.2.2.2.2 (mi_good hmi.1) rfl rfl rfl (hN _ hlink) (hC.2.2.2.2 _ hmi.2.1) hmi.2.2 hR
/-- invokevirtual -/
theorem k_rV (hC : CallFix p m c cc nL s args gw own) (hN : NW s) (hZ : SW A s s.heap) (hS : va_S A s.heap H locs) (hA : ∀ q, s.heap.size ≤ q → A q) (hK : va_K G cl tys s) (hP : va_P G cl ws H) (hD : va_D A ws) (hM : Con l G tys y bytes maxL ret rm (.ref b :: As) wc QA) (isC : List Nat) (hiC : isC.map (fun i => ws[i]?) = wc.map some) (hnC : va_nd isC = true)
    (hmi : MI y bytes maxL ret n) (hin : Cond.instanceMethod y ∈ gw) (hse : Cond.selects y.cls y y ∈ gw) (hlink : Cond.methodLink own index y ∈ gw) (ci q0 : Nat) {q : vw_C} {fs : List Value} (hcl : cl[ci]? = some q) (hq : q.1 = y.cls) (he : ws[q0]? = some (b, .inr (ci, fs)))
    (hsz : ls.size = nL) (hnum : As.length = n) (hst : st0 = As.reverse ++ .ref b :: rest) (hcat : (rest.map fun v => v.category).sum ≤ 8) (hR : rm.frames + 1 ≤ R.frames ∧ 8 + (maxL + 11) + rm.locals ≤ R.locals) (hdg : decode cc pc = .ok (.invokevirtual index, 3)) (hf : cells + rm.cells ≤ R.cells ∧ slots + rm.slots ≤ R.slots) :
    va_Run p l e R s m args below meth c H locs cells slots rm.cells rm.slots (F0 m pc ls st0) rest (QA (va_A wc H.size) (Value.ref b :: As).toArray) (va_A wc H.size) := by
  have hrv := va_recv hK hP hcl he
  rw [hq] at hrv
  exact va_runV (g := F0 m pc ls st0) (As := As) (rest := rest) hC (hM H.size) ⟨k_cb hC hmi hlink hR, hC.2.2.2.2 _ hin, hC.2.2.2.2 _ hse⟩ ⟨PW.blind, hrv, k_pre hN hZ hS hA hK hP hD isC hiC hnC⟩ rfl hnum hsz hst (lv_room hcat) hdg hf
/-- invokevirtual of a nest mate's private method -/
theorem k_rVN {host : String} (hC : CallFix p m c cc nL s args gw own) (hN : NW s) (hZ : SW A s s.heap) (hS : va_S A s.heap H locs) (hA : ∀ q, s.heap.size ≤ q → A q) (hK : va_K G cl tys s) (hP : va_P G cl ws H) (hD : va_D A ws) (hM : Con l G tys y bytes maxL ret rm (.ref b :: As) wc QA) (isC : List Nat) (hiC : isC.map (fun i => ws[i]?) = wc.map some) (hnC : va_nd isC = true)
    (hmi : MI y bytes maxL ret n) (hin : Cond.instanceMethod y ∈ gw) (hse : Cond.selects y.cls y y ∈ gw) (hlink : Cond.methodLinkNest own index y host ∈ nests) (ci q0 : Nat) {q : vw_C} {fs : List Value} (hcl : cl[ci]? = some q) (hq : q.1 = y.cls) (he : ws[q0]? = some (b, .inr (ci, fs)))
    (hsz : ls.size = nL) (hnum : As.length = n) (hst : st0 = As.reverse ++ .ref b :: rest) (hcat : (rest.map fun v => v.category).sum ≤ 8) (hR : rm.frames + 1 ≤ R.frames ∧ 8 + (maxL + 11) + rm.locals ≤ R.locals) (hdg : decode cc pc = .ok (.invokevirtual index, 3)) (hf : cells + rm.cells ≤ R.cells ∧ slots + rm.slots ≤ R.slots) :
    va_Run p l e R s m args below meth c H locs cells slots rm.cells rm.slots (F0 m pc ls st0) rest (QA (va_A wc H.size) (Value.ref b :: As).toArray) (va_A wc H.size) := by
  have hrv := va_recv hK hP hcl he
  rw [hq] at hrv
  exact va_runVN (g := F0 m pc ls st0) (As := As) (rest := rest) hC (hM H.size) ⟨k_cn hC hN hmi hlink hR, hC.2.2.2.2 _ hin, hC.2.2.2.2 _ hse⟩ ⟨PW.blind, hrv, k_pre hN hZ hS hA hK hP hD isC hiC hnC⟩ rfl hnum hsz hst (lv_room hcat) hdg hf
/-- invokestatic -/
theorem k_rS (hC : CallFix p m c cc nL s args gw own) (hN : NW s) (hZ : SW A s s.heap) (hS : va_S A s.heap H locs) (hA : ∀ q, s.heap.size ≤ q → A q) (hK : va_K G cl tys s) (hP : va_P G cl ws H) (hD : va_D A ws) (hM : Con l G tys y bytes maxL ret rm As wc QA) (isC : List Nat) (hiC : isC.map (fun i => ws[i]?) = wc.map some) (hnC : va_nd isC = true)
    (hmi : MI y bytes maxL ret n) (hst1 : Cond.static y ∈ gw) (hlink : Cond.methodLink own index y ∈ gw)
    (hsz : ls.size = nL) (hnum : As.length = n) (hst : st0 = As.reverse ++ rest) (hcat : (rest.map fun v => v.category).sum ≤ 8) (hR : rm.frames + 1 ≤ R.frames ∧ 8 + (maxL + 11) + rm.locals ≤ R.locals) (hdg : decode cc pc = .ok (.invokestatic index, 3)) (hf : cells + rm.cells ≤ R.cells ∧ slots + rm.slots ≤ R.slots) :
    va_Run p l e R s m args below meth c H locs cells slots rm.cells rm.slots (F0 m pc ls st0) rest (QA (va_A wc H.size) As.toArray) (va_A wc H.size) :=
  va_runS (g := F0 m pc ls st0) (As := As) (rest := rest) hC (hM H.size) ⟨k_cb hC hmi hlink hR, hC.2.2.2.2 _ hst1⟩ ⟨PW.blind, k_pre hN hZ hS hA hK hP hD isC hiC hnC⟩ rfl hnum hsz hst (lv_room hcat) hdg hf
/-- invokespecial <init> -/
theorem k_rI (hC : CallFix p m c cc nL s args gw own) (hN : NW s) (hZ : SW A s s.heap) (hS : va_S A s.heap H locs) (hA : ∀ q, s.heap.size ≤ q → A q) (hK : va_K G cl tys s) (hP : va_P G cl ws H) (hD : va_D A ws) (hM : Con l G tys y bytes maxL none rm (.ref b :: As) wc QA) (isC : List Nat) (hiC : isC.map (fun i => ws[i]?) = wc.map some) (hnC : va_nd isC = true)
    (hmi : MI y bytes maxL none n) (hin : Cond.instanceMethod y ∈ gw) (hy1 : y.name = "<init>") (hlink : Cond.methodLink own index y ∈ gw)
    (hsz : ls.size = nL) (hnum : As.length = n) (hst : st0 = As.reverse ++ .ref b :: rest) (hcat : (rest.map fun v => v.category).sum ≤ 8) (hR : rm.frames + 1 ≤ R.frames ∧ 8 + (maxL + 11) + rm.locals ≤ R.locals) (hdg : decode cc pc = .ok (.invokespecial index, 3)) (hf : cells + rm.cells ≤ R.cells ∧ slots + rm.slots ≤ R.slots) :
    va_Run p l e R s m args below meth c H locs cells slots rm.cells rm.slots (F0 m pc ls st0) rest (QA (va_A wc H.size) (Value.ref b :: As).toArray) (va_A wc H.size) :=
  va_runI (g := F0 m pc ls st0) (As := As) (rest := rest) hC (hM H.size) ⟨k_cb hC hmi hlink hR, hy1, hC.2.2.2.2 _ hin⟩ ⟨PW.blind, k_pre hN hZ hS hA hK hP hD isC hiC hnC⟩ rfl hnum hsz hst (lv_room hcat) hdg hf
theorem k_rIN {host : String} (hC : CallFix p m c cc nL s args gw own) (hN : NW s) (hZ : SW A s s.heap) (hS : va_S A s.heap H locs) (hA : ∀ q, s.heap.size ≤ q → A q) (hK : va_K G cl tys s) (hP : va_P G cl ws H) (hD : va_D A ws) (hM : Con l G tys y bytes maxL none rm (.ref b :: As) wc QA) (isC : List Nat) (hiC : isC.map (fun i => ws[i]?) = wc.map some) (hnC : va_nd isC = true)
    (hmi : MI y bytes maxL none n) (hin : Cond.instanceMethod y ∈ gw) (hy1 : y.name = "<init>") (hlink : Cond.methodLinkNest own index y host ∈ nests)
    (hsz : ls.size = nL) (hnum : As.length = n) (hst : st0 = As.reverse ++ .ref b :: rest) (hcat : (rest.map fun v => v.category).sum ≤ 8) (hR : rm.frames + 1 ≤ R.frames ∧ 8 + (maxL + 11) + rm.locals ≤ R.locals) (hdg : decode cc pc = .ok (.invokespecial index, 3)) (hf : cells + rm.cells ≤ R.cells ∧ slots + rm.slots ≤ R.slots) :
    va_Run p l e R s m args below meth c H locs cells slots rm.cells rm.slots (F0 m pc ls st0) rest (QA (va_A wc H.size) (Value.ref b :: As).toArray) (va_A wc H.size) :=
  va_runIN (g := F0 m pc ls st0) (As := As) (rest := rest) hC (hM H.size) ⟨k_cn hC hN hmi hlink hR, hy1, hC.2.2.2.2 _ hin⟩ ⟨PW.blind, k_pre hN hZ hS hA hK hP hD isC hiC hnC⟩ rfl hnum hsz hst (lv_room hcat) hdg hf
variable {a : Array Value} {mc ms : Nat}
theorem k_ci {S : Type} {post : Int32 → S → Prop} {w1 : S → va_W} (hr : va_Run p l e R s m args below meth c H locs cells slots mc ms (F0 m pc ls st0) rest (QI G tys post w1 (va_A wc H.size) a) (va_A wc H.size)) (hP : va_P G cl ws H) (hD : va_D A ws) (hS : va_S A s.heap H locs) (hA : ∀ q, s.heap.size ≤ q → A q) (isC isR : List Nat) (hiC : isC.map (fun i => ws[i]?) = wc.map some) (hiR : isR.map (fun i => ws[i]?) = wr.map some) (hnR : va_nd isR = true) (hdis : ∀ i ∈ isR, i ∉ isC)
    (kk : ∀ (r : Int32) (u : S) (H1 : Heap) (locs1 : List Loc), post r u → va_P G cl (wr ++ w1 u) H1 → va_D A (wr ++ w1 u) → va_S A s.heap H1 locs1 → W p l e R s m args below meth c H1 locs1 (cells + mc) (slots + ms) Q (F0 m (pc + 3) ls (.int r :: rest))) : W p l e R s m args below meth c H locs cells slots Q (F0 m pc ls st0) := by
  have hFc := va_free (wc := wc) hD hS hA isC hiC
  refine va_calli hr hS (fun q _ h => hFc q h) hFc (fun r u t H1 locs1 ht hvm hw hB hz1 hk1 hS1 => ?_)
  obtain ⟨hP1, hK1, hD1⟩ := hB
  rw [ht] at hP1
  obtain ⟨hP2, hD2⟩ := va_join (wr := wr) (w1 := w1 u) hP hD isC isR hiC hiR hnR hdis hk1 hFc hP1 hD1
  exact kk r u H1 locs1 hw hP2 hD2 hS1
theorem k_cl {S : Type} {post : Int64 → S → Prop} {w1 : S → va_W} (hr : va_Run p l e R s m args below meth c H locs cells slots mc ms (F0 m pc ls st0) rest (QL G tys post w1 (va_A wc H.size) a) (va_A wc H.size)) (hP : va_P G cl ws H) (hD : va_D A ws) (hS : va_S A s.heap H locs) (hA : ∀ q, s.heap.size ≤ q → A q) (isC isR : List Nat) (hiC : isC.map (fun i => ws[i]?) = wc.map some) (hiR : isR.map (fun i => ws[i]?) = wr.map some) (hnR : va_nd isR = true) (hdis : ∀ i ∈ isR, i ∉ isC)
    (kk : ∀ (r : Int64) (u : S) (H1 : Heap) (locs1 : List Loc), post r u → va_P G cl (wr ++ w1 u) H1 → va_D A (wr ++ w1 u) → va_S A s.heap H1 locs1 → W p l e R s m args below meth c H1 locs1 (cells + mc) (slots + ms) Q (F0 m (pc + 3) ls (.long r :: rest))) : W p l e R s m args below meth c H locs cells slots Q (F0 m pc ls st0) := by
  have hFc := va_free (wc := wc) hD hS hA isC hiC
  refine va_calll hr hS (fun q _ h => hFc q h) hFc (fun r u t H1 locs1 ht hvm hw hB hz1 hk1 hS1 => ?_)
  obtain ⟨hP1, hK1, hD1⟩ := hB
  rw [ht] at hP1
  obtain ⟨hP2, hD2⟩ := va_join (wr := wr) (w1 := w1 u) hP hD isC isR hiC hiR hnR hdis hk1 hFc hP1 hD1
  exact kk r u H1 locs1 hw hP2 hD2 hS1
theorem k_cv {S : Type} {post : S → Prop} {w1 : S → va_W} (hr : va_Run p l e R s m args below meth c H locs cells slots mc ms (F0 m pc ls st0) rest (QV G tys post w1 (va_A wc H.size) a) (va_A wc H.size)) (hP : va_P G cl ws H) (hD : va_D A ws) (hS : va_S A s.heap H locs) (hA : ∀ q, s.heap.size ≤ q → A q) (isC isR : List Nat) (hiC : isC.map (fun i => ws[i]?) = wc.map some) (hiR : isR.map (fun i => ws[i]?) = wr.map some) (hnR : va_nd isR = true) (hdis : ∀ i ∈ isR, i ∉ isC)
    (kk : ∀ (u : S) (H1 : Heap) (locs1 : List Loc), post u → va_P G cl (wr ++ w1 u) H1 → va_D A (wr ++ w1 u) → va_S A s.heap H1 locs1 → W p l e R s m args below meth c H1 locs1 (cells + mc) (slots + ms) Q (F0 m (pc + 3) ls rest)) : W p l e R s m args below meth c H locs cells slots Q (F0 m pc ls st0) := by
  have hFc := va_free (wc := wc) hD hS hA isC hiC
  refine va_callv hr hS (fun q _ h => hFc q h) hFc (fun u t H1 locs1 ht hvm hw hB hz1 hk1 hS1 => ?_)
  obtain ⟨hP1, hK1, hD1⟩ := hB
  rw [ht] at hP1
  obtain ⟨hP2, hD2⟩ := va_join (wr := wr) (w1 := w1 u) hP hD isC isR hiC hiR hnR hdis hk1 hFc hP1 hD1
  exact kk u H1 locs1 hw hP2 hD2 hS1
theorem k_cr {S : Type} {post : S → Prop} {ra : S → Nat} {w1 : S → va_W} (hr : va_Run p l e R s m args below meth c H locs cells slots mc ms (F0 m pc ls st0) rest (QR G tys post ra w1 (va_A wc H.size) a) (va_A wc H.size)) (hP : va_P G cl ws H) (hD : va_D A ws) (hS : va_S A s.heap H locs) (hA : ∀ q, s.heap.size ≤ q → A q) (isC isR : List Nat) (hiC : isC.map (fun i => ws[i]?) = wc.map some) (hiR : isR.map (fun i => ws[i]?) = wr.map some) (hnR : va_nd isR = true) (hdis : ∀ i ∈ isR, i ∉ isC)
    (kk : ∀ (u : S) (H1 : Heap) (locs1 : List Loc), post u → va_P G cl (wr ++ w1 u) H1 → va_D A (wr ++ w1 u) → va_S A s.heap H1 locs1 → W p l e R s m args below meth c H1 locs1 (cells + mc) (slots + ms) Q (F0 m (pc + 3) ls (.ref (ra u) :: rest))) : W p l e R s m args below meth c H locs cells slots Q (F0 m pc ls st0) := by
  have hFc := va_free (wc := wc) hD hS hA isC hiC
  refine va_callr hr hS (fun q _ h => hFc q h) hFc (fun u ra1 t H1 locs1 ht hvm hw hB hz1 hk1 hS1 => ?_)
  obtain ⟨he, hP1, hK1, hD1⟩ := hB
  subst he
  rw [ht] at hP1
  obtain ⟨hP2, hD2⟩ := va_join (wr := wr) (w1 := w1 u) hP hD isC isR hiC hiR hnR hdis hk1 hFc hP1 hD1
  exact kk u H1 locs1 hw hP2 hD2 hS1
/-- the ends -/
theorem k_end {t : State} {w : va_W} (hP : va_P G cl ws H) (hD : va_D A ws) (hK : va_K G cl tys s) (is : List Nat) (hi : is.map (fun i => ws[i]?) = w.map some) (hn : va_nd is = true) (ht : t.heap = H) (hW : s.WarmedH t.vm) : BW G tys A w t := ⟨by rw [ht]; exact hP.subm is hi, va_K.moved hW.alike hK, hD.sub is hn hi⟩
theorem k_iret {S : Type} {post : Int32 → S → Prop} {w1 : S → va_W} {v : Int32} (hC : CallFix p m c cc nL s args gw own) (hr : meth.sig.returnType = some .int) (hlk : meth.locks = false) (hK : va_K G cl tys s) (hP : va_P G cl ws H) (hD : va_D A ws) (hS : va_S A s.heap H locs) (u : S) (is : List Nat) (hi : is.map (fun i => ws[i]?) = (w1 u).map some) (hn : va_nd is = true) (hp : post v u) (hc : cells ≤ mc) (hs : slots ≤ ms) (hdg : decode cc pc = .ok (.ireturn, 1)) :
    W p l e R s m args below meth c H locs cells slots (MQ below (QI G tys post w1 A) args s mc ms A) (F0 m pc ls [.int v]) := by
  refine W.widen (k := mc) (n := ms) hc hs ?_
  exact W.iret hC.1 hC.2.1 hr (fun t ht hW => ⟨⟨v, u, rfl, hp, k_end hP hD hK is hi hn ht hW⟩, hS.F ht⟩) hS.2.2 hdg hlk
theorem k_zret {S : Type} {post : Int32 → S → Prop} {w1 : S → va_W} {v : Int32} (hC : CallFix p m c cc nL s args gw own) (hr : meth.sig.returnType = some .boolean) (hlk : meth.locks = false) (hK : va_K G cl tys s) (hP : va_P G cl ws H) (hD : va_D A ws) (hS : va_S A s.heap H locs) (u : S) (is : List Nat) (hi : is.map (fun i => ws[i]?) = (w1 u).map some) (hn : va_nd is = true) (hnar : narrow .boolean (.int v) = .int v) (hp : post v u) (hc : cells ≤ mc) (hs : slots ≤ ms) (hdg : decode cc pc = .ok (.ireturn, 1)) :
    W p l e R s m args below meth c H locs cells slots (MQ below (QI G tys post w1 A) args s mc ms A) (F0 m pc ls [.int v]) := by
  refine W.widen (k := mc) (n := ms) hc hs ?_
  exact W.zret hC.1 hC.2.1 hr hnar (fun t ht hW => ⟨⟨v, u, rfl, hp, k_end hP hD hK is hi hn ht hW⟩, hS.F ht⟩) hS.2.2 hdg hlk
theorem k_lret {S : Type} {post : Int64 → S → Prop} {w1 : S → va_W} {v : Int64} (hC : CallFix p m c cc nL s args gw own) (hr : meth.sig.returnType = some .long) (hlk : meth.locks = false) (hK : va_K G cl tys s) (hP : va_P G cl ws H) (hD : va_D A ws) (hS : va_S A s.heap H locs) (u : S) (is : List Nat) (hi : is.map (fun i => ws[i]?) = (w1 u).map some) (hn : va_nd is = true) (hp : post v u) (hc : cells ≤ mc) (hs : slots ≤ ms) (hdg : decode cc pc = .ok (.lreturn, 1)) :
    W p l e R s m args below meth c H locs cells slots (MQ below (QL G tys post w1 A) args s mc ms A) (F0 m pc ls [.long v]) := by
  refine W.widen (k := mc) (n := ms) hc hs ?_
  exact W.lret hC.1 hC.2.1 hr (fun t ht hW => ⟨⟨v, u, rfl, hp, k_end hP hD hK is hi hn ht hW⟩, hS.F ht⟩) hS.2.2 hdg hlk
theorem k_vret {S : Type} {post : S → Prop} {w1 : S → va_W} (hC : CallFix p m c cc nL s args gw own) (hr : meth.sig.returnType = none) (hlk : meth.locks = false) (hK : va_K G cl tys s) (hP : va_P G cl ws H) (hD : va_D A ws) (hS : va_S A s.heap H locs) (u : S) (is : List Nat) (hi : is.map (fun i => ws[i]?) = (w1 u).map some) (hn : va_nd is = true) (hp : post u) (hc : cells ≤ mc) (hs : slots ≤ ms) (hdg : decode cc pc = .ok (.return_, 1)) :
    W p l e R s m args below meth c H locs cells slots (MQ below (QV G tys post w1 A) args s mc ms A) (F0 m pc ls []) := by
  refine W.widen (k := mc) (n := ms) hc hs ?_
  exact W.vret hC.1 hC.2.1 hr (fun t ht hW => ⟨⟨u, rfl, hp, k_end hP hD hK is hi hn ht hW⟩, hS.F ht⟩) hS.2.2 hdg hlk
theorem k_aret {S : Type} {post : S → Prop} {ra : S → Nat} {w1 : S → va_W} {rt : FieldType} (hC : CallFix p m c cc nL s args gw own) (hr : meth.sig.returnType = some rt) (hrt : (∃ n, rt = .object n) ∨ ∃ t, rt = .array t) (hlk : meth.locks = false) (hK : va_K G cl tys s) (hP : va_P G cl ws H) (hD : va_D A ws) (hS : va_S A s.heap H locs) (u : S) (is : List Nat) (hi : is.map (fun i => ws[i]?) = (w1 u).map some) (hn : va_nd is = true) (hp : post u) (hc : cells ≤ mc) (hs : slots ≤ ms) (hdg : decode cc pc = .ok (.areturn, 1)) :
    W p l e R s m args below meth c H locs cells slots (MQ below (QR G tys post ra w1 A) args s mc ms A) (F0 m pc ls [.ref (ra u)]) := by
  refine W.widen (k := mc) (n := ms) hc hs ?_
  exact W.aret hC.1 hC.2.1 hr hrt (Or.inr ⟨_, rfl⟩) (fun t ht hW => ⟨⟨u, ra u, rfl, hp, rfl, k_end hP hD hK is hi hn ht hW⟩, hS.F ht⟩) hS.2.2 hdg hlk
/-- a computed number gets its value -/
theorem k_i {x : Int32} (z : Int32) (h : x = z) (k : W p l e R s m args below meth c H locs cells slots Q (F0 m pc ls (.int z :: rest))) : W p l e R s m args below meth c H locs cells slots Q (F0 m pc ls (.int x :: rest)) := by subst h; exact k
theorem k_l {x : Int64} (z : Int64) (h : x = z) (k : W p l e R s m args below meth c H locs cells slots Q (F0 m pc ls (.long z :: rest))) : W p l e R s m args below meth c H locs cells slots Q (F0 m pc ls (.long x :: rest)) := by subst h; exact k
/-- a new array, its kind known -/
theorem k_newa (hexec : p.tables.exec = Jvm.exec) (hb : c.code = cc) {atype : ArrayType} (harr : (Cond.arrayClass (newarray.typeOf atype)).before args s = true) {ty : FieldType} (hty : newarray.typeOf atype = ty) (t0 : Nat) {cA : ClassId} (ht : tys[t0]? = some (cA, ty)) (hRA : va_RA s cA ty → s.vm.findClass ("[" ++ ty.toString) = some cA) (hK : va_K G cl tys s) (hP : va_P G cl ws H) (hD : va_D A ws) (hS : va_S A s.heap H locs) (hA : ∀ q, s.heap.size ≤ q → A q)
    {n : Int32} {N' : Nat} {a0 : vp_A} (ha : ∀ cA : ClassId, vp_cell cA a0 = arrV cA N' (fun _ => defaultValue ty)) (hn : ¬ n < 0) (hN : n.toNatClampNeg = N') (hbytes : N' * componentBytes ty ≤ 536870912) (hcells : cells + 1 ≤ R.cells) (hslots : slots + N' ≤ R.slots) (hdg : decode cc pc = .ok (.newarray atype, 2))
    (kk : ∀ (q : Nat) (H1 : Heap), va_P G cl (ws ++ [(q, .inl (cA, a0))]) H1 → va_D A (ws ++ [(q, .inl (cA, a0))]) → va_S A s.heap H1 locs →
      W p l e R s m args below meth c H1 locs (cells + 1) (slots + N') Q (F0 m (pc + 2) ls (.ref q :: rest))) : W p l e R s m args below meth c H locs cells slots Q (F0 m pc ls (.int n :: rest)) := by
  have hfc := hRA (hK.2 t0 _ ht).2
  subst hty
  refine va_newa hexec hb harr rfl hK hP hD hS hA ha hn hN hbytes hcells hslots hdg (fun q cA1 H1 hK1 hP1 hD1 hS1 => ?_)
  have h1 := (hK1.2 tys.length (cA1, newarray.typeOf atype) (by simp)).2
  have h2 : s.vm.findClass ("[" ++ (newarray.typeOf atype).toString) = some cA1 := by cases atype <;> exact h1
  have he : cA1 = cA := Option.some.inj (h2.symm.trans hfc)
  subst he
  exact kk q H1 hP1 hD1 hS1
end KC
set_option maxRecDepth 100000 in
theorem iX0 : ∀ w ∈ u_ws RX0 TX0 7, w ∈ gw := gw_of _ (by decide +kernel)
set_option maxRecDepth 100000 in
theorem iX1 : ∀ w ∈ u_ws RX1 TX1 5, w ∈ gw := gw_of _ (by decide +kernel)
set_option maxRecDepth 100000 in
theorem iX2 : ∀ w ∈ u_ws RX2 TX2 8, w ∈ gw := gw_of _ (by decide +kernel)
set_option maxRecDepth 100000 in
theorem iX3 : ∀ w ∈ u_ws RX3 TX3 5, w ∈ gw := gw_of _ (by decide +kernel)
set_option maxRecDepth 100000 in
theorem iX4 : ∀ w ∈ u_ws RX4 TX4 11, w ∈ gw := gw_of _ (by decide +kernel)
set_option maxRecDepth 100000 in
theorem iX5 : ∀ w ∈ u_ws RX5 TX5 7, w ∈ gw := gw_of _ (by decide +kernel)
set_option maxRecDepth 100000 in
theorem iX6 : ∀ w ∈ u_ws RX6 TX6 20, w ∈ gw := gw_of _ (by decide +kernel)
set_option maxRecDepth 100000 in
theorem iX7 : ∀ w ∈ u_ws RX7 TX7 15, w ∈ gw := gw_of _ (by decide +kernel)
set_option maxRecDepth 100000 in
theorem iX8 : ∀ w ∈ u_ws RX8 TX8 8, w ∈ gw := gw_of _ (by decide +kernel)
set_option maxRecDepth 100000 in
theorem iX9 : ∀ w ∈ u_ws RX9 TX9 9, w ∈ gw := gw_of _ (by decide +kernel)
set_option maxRecDepth 100000 in
theorem iX10 : ∀ w ∈ u_ws RX10 TX10 69, w ∈ gw := gw_of _ (by decide +kernel)

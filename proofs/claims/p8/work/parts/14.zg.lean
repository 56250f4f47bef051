
/-! contracts that say how much the heap has grown -/
def fl (g : Nat) : Nat := if g < 11 then 256 * 2 ^ g else 300000
def fs : Nat → Nat
  | 0 => 0
  | g + 1 => fs g + fl (g + 1)
theorem fl_b (g : Nat) : 256 ≤ fl g ∧ fl g ≤ 300000 := by
  by_cases h : g < 11
  · have : ∀ g, g < 11 → 256 ≤ fl g ∧ fl g ≤ 300000 := by decide
    exact this g h
  · unfold fl; rw [if_neg h]; omega
theorem fl_11 : fl 11 = 300000 := rfl
theorem fl_step {g : Nat} (h : g < 11) : fl (g + 1) = min (2 * fl g) 300000 := by
  have : ∀ g, g < 11 → fl (g + 1) = min (2 * fl g) 300000 := by decide
  exact this g h
theorem fs_mono {a b : Nat} (h : a ≤ b) : fs a ≤ fs b := by
  induction b with
  | zero => have : a = 0 := by omega
            subst this; exact Nat.le_refl _
  | succ b ih =>
    by_cases e : a = b + 1
    · subst e; exact Nat.le_refl _
    · exact Nat.le_trans (ih (by omega)) (Nat.le_add_right _ _)
theorem gr_r0 {g gc : Nat} (h1 : g ≤ gc) (h2 : gc ≤ 11) : (gc - g) + 0 ≤ 11 - g ∧ (fs gc - fs g) + 0 ≤ fs 11 - fs g := by
  have := fs_mono h1; have := fs_mono h2; omega
theorem gr_rG {g gc : Nat} (h1 : g ≤ gc) (h2 : gc ≤ 11) : (gc - g) + (11 - gc) ≤ 11 - g ∧ (fs gc - fs g) + (fs 11 - fs gc) ≤ fs 11 - fs g := by
  have := fs_mono h1; have := fs_mono h2; omega
theorem gr_lc {g gc : Nat} (h1 : g ≤ gc) (h2 : gc ≤ 11) : gc - g ≤ 11 - g := by omega
theorem gr_ls {g gc : Nat} (h1 : g ≤ gc) (h2 : gc ≤ 11) : fs gc - fs g ≤ fs 11 - fs g := by
  have := fs_mono h1; have := fs_mono h2; omega
theorem GR.rf {H : Heap} {a b : Nat} : GR H H a b := ⟨Nat.le_refl _, Nat.le_add_right _ _, fun k _ => Nat.le_add_right _ _⟩
theorem GR.tr3 {H0 H1 H2 : Heap} {g g1 g2 : Nat} (h : GR H0 H1 (g1 - g) (fs g1 - fs g)) (h' : GR H1 H2 (g2 - g1) (fs g2 - fs g1)) (a : g ≤ g1) (b : g1 ≤ g2) : GR H0 H2 (g2 - g) (fs g2 - fs g) := by
  have := fs_mono a; have := fs_mono b
  exact (h.trans h').mono (by omega) (by omega)
def PWG (G : va_G) (tys : List (ClassId × FieldType)) (av : List Value) (ws : va_W) (H0 : Heap) : Array Value → State → Prop := fun a U => PW G tys av ws H0.size a U ∧ U.heap = H0
def QIG {S : Type} (G : va_G) (tys : List (ClassId × FieldType)) (g : Nat) (gn : S → Nat) (post : Int32 → S → Prop) (w1 : S → va_W) (H0 : Heap) (A : Nat → Prop) : Array Value → State → Outcome → State → Prop := va_Qi post (fun u t => BW G tys A (w1 u) t ∧ GR H0 t.heap (gn u - g) (fs (gn u) - fs g)) A
def QVG {S : Type} (G : va_G) (tys : List (ClassId × FieldType)) (g : Nat) (gn : S → Nat) (post : S → Prop) (w1 : S → va_W) (H0 : Heap) (A : Nat → Prop) : Array Value → State → Outcome → State → Prop := va_Qv post (fun u t => BW G tys A (w1 u) t ∧ GR H0 t.heap (gn u - g) (fs (gn u) - fs g)) A
def ConG (l : Launch) (G : va_G) (tys : List (ClassId × FieldType)) (y : MethodName) (cc : ByteArray) (nL : Nat) (ret : Option FieldType) (rm : Room) (av : List Value) (w0 : va_W) (QA : Heap → (Nat → Prop) → Array Value → State → Outcome → State → Prop) : Prop :=
  ∀ H0 : Heap, Met l y (.code y cc nL ret :: gw) rm (PWG G tys av w0 H0) (QA H0 (va_A w0 H0.size)) rm.cells rm.slots (va_A w0 H0.size)
theorem PWG.blind {G : va_G} {tys : List (ClassId × FieldType)} {av : List Value} {ws : va_W} {H0 : Heap} : FrameBlind (PWG G tys av ws H0) := by
  intro a U g mk h
  exact ⟨PW.blind a U g mk h.1, h.2⟩
theorem k_metG {l : Launch} {G : va_G} {tys : List (ClassId × FieldType)} {y : MethodName} {cc : ByteArray} {nL : Nat} {ret : Option FieldType} {rm : Room} {av : List Value} {w0 : va_W} {QA : Heap → (Nat → Prop) → Array Value → State → Outcome → State → Prop}
    (hy : plainName y.cls = true) (hn : (lg_sl av).length ≤ nL)
    (body : ∀ (p : Program) (e : Env) (s : State) (m : MethodId) (below : List Frame) (meth : Method) (c : Code) (A : Nat → Prop) (ls : Array Slot), CallFix p m c cc nL s av.toArray gw y.cls → meth.sig.returnType = ret → meth.locks = false → meth.name = y.name → NW s → SW A s s.heap → va_K G cl tys s → (∀ q, s.heap.size ≤ q → A q) →
      va_P G cl w0 s.heap → va_D A w0 → va_S A s.heap s.heap [] → lv_has ls nL (lv_args 0 av) → W p l e rm s m av.toArray below meth c s.heap [] 0 0 (MQ below (QA s.heap A) av.toArray s rm.cells rm.slots A) (F0 m 0 ls [])) :
    ConG l G tys y cc nL ret rm av w0 QA := by
  intro H0
  refine Met.ofW (cc := cc) (maxL := nL) (ret := ret) hy rfl ?_
  intro p e s m args below meth c s₁ B hml hv
  obtain ⟨⟨rfl, hsz, hP, hK, hD0, hN, hZ⟩, hH⟩ := hv
  subst hH
  have hts := atoms_spec (ws := .code y cc nL ret :: gw) B.pre
  have hl := lv_entry av (n := nL) hn
  rw [lg_entry_eq]
  exact body p e s m below meth c _ _ ⟨B.exec, B.bytes, hml, findClass_of_methodNamed B.named, fun w hw => hts w (List.mem_cons_of_mem _ hw)⟩ B.returns B.notSynchronized (name_of_methodNamed B.named B.method).1 hN hZ hK (fun q h => Or.inr h) hP (hD0.self (sz := s.heap.size)) va_S.rf hl
section KCG
variable {p : Program} {l : Launch} {e : Env} {R : Room} {s : State} {m : MethodId} {args : Array Value} {below : List Frame} {meth : Method} {c : Code} {H : Heap} {locs : List Loc} {cells slots : Nat} {Q : State → Prop} {cc bytes : ByteArray} {nL maxL index n pc : Nat} {own : String} {y : MethodName} {ret : Option FieldType} {rm : Room} {G : va_G} {tys : List (ClassId × FieldType)} {A : Nat → Prop} {ws wc wr : va_W} {ls : Array Slot} {As st0 rest : List Value} {b : Nat} {QA : Heap → (Nat → Prop) → Array Value → State → Outcome → State → Prop}
theorem k_preG {av : List Value} (hN : NW s) (hZ : SW A s s.heap) (hS : va_S A s.heap H locs) (hA : ∀ q, s.heap.size ≤ q → A q) (hK : va_K G cl tys s) (hP : va_P G cl ws H) (hD : va_D A ws) (isC : List Nat) (hC : isC.map (fun i => ws[i]?) = wc.map some) (hn : va_nd isC = true) : ∀ U : State, U.heap = H → s.WarmedH U.vm → PWG G tys av wc H av.toArray U := by
  intro U hU hW
  refine ⟨?_, hU⟩
  exact ⟨rfl, by rw [hU], by rw [hU]; exact hP.subm isC hC, va_K.moved hW.alike hK, (hD.sub isC hn hC).weaken (fun _ _ _ _ => trivial), NW.warm hW hN, by rw [hU]; exact ((hZ.kept hS.2.1).moved hW.alike).narrow (va_free (wc := wc) hD hS hA isC hC)⟩
theorem k_rVG (hC : CallFix p m c cc nL s args gw own) (hN : NW s) (hZ : SW A s s.heap) (hS : va_S A s.heap H locs) (hA : ∀ q, s.heap.size ≤ q → A q) (hK : va_K G cl tys s) (hP : va_P G cl ws H) (hD : va_D A ws) (hM : ConG l G tys y bytes maxL ret rm (.ref b :: As) wc QA) (isC : List Nat) (hiC : isC.map (fun i => ws[i]?) = wc.map some) (hnC : va_nd isC = true)
    (hmi : MI y bytes maxL ret n) (hin : Cond.instanceMethod y ∈ gw) (hse : Cond.selects y.cls y y ∈ gw) (hlink : Cond.methodLink own index y ∈ gw) (ci q0 : Nat) {q : vw_C} {fs : List Value} (hcl : cl[ci]? = some q) (hq : q.1 = y.cls) (he : ws[q0]? = some (b, .inr (ci, fs)))
    (hsz : ls.size = nL) (hnum : As.length = n) (hst : st0 = As.reverse ++ .ref b :: rest) (hcat : (rest.map fun v => v.category).sum ≤ 8) (hR : rm.frames + 1 ≤ R.frames ∧ 8 + (maxL + 11) + rm.locals ≤ R.locals) (hdg : decode cc pc = .ok (.invokevirtual index, 3)) (hf : cells + rm.cells ≤ R.cells ∧ slots + rm.slots ≤ R.slots) :
    va_Run p l e R s m args below meth c H locs cells slots rm.cells rm.slots (F0 m pc ls st0) rest (QA H (va_A wc H.size) (Value.ref b :: As).toArray) (va_A wc H.size) := by
  have hrv := va_recv hK hP hcl he
  rw [hq] at hrv
  exact va_runV (g := F0 m pc ls st0) (As := As) (rest := rest) hC (hM H) ⟨k_cb hC hmi hlink hR, hC.2.2.2.2 _ hin, hC.2.2.2.2 _ hse⟩ ⟨PWG.blind, hrv, k_preG hN hZ hS hA hK hP hD isC hiC hnC⟩ rfl hnum hsz hst (lv_room hcat) hdg hf
theorem k_rVNG {host : String} (hC : CallFix p m c cc nL s args gw own) (hN : NW s) (hZ : SW A s s.heap) (hS : va_S A s.heap H locs) (hA : ∀ q, s.heap.size ≤ q → A q) (hK : va_K G cl tys s) (hP : va_P G cl ws H) (hD : va_D A ws) (hM : ConG l G tys y bytes maxL ret rm (.ref b :: As) wc QA) (isC : List Nat) (hiC : isC.map (fun i => ws[i]?) = wc.map some) (hnC : va_nd isC = true)
    (hmi : MI y bytes maxL ret n) (hin : Cond.instanceMethod y ∈ gw) (hse : Cond.selects y.cls y y ∈ gw) (hlink : Cond.methodLinkNest own index y host ∈ nests) (ci q0 : Nat) {q : vw_C} {fs : List Value} (hcl : cl[ci]? = some q) (hq : q.1 = y.cls) (he : ws[q0]? = some (b, .inr (ci, fs)))
    (hsz : ls.size = nL) (hnum : As.length = n) (hst : st0 = As.reverse ++ .ref b :: rest) (hcat : (rest.map fun v => v.category).sum ≤ 8) (hR : rm.frames + 1 ≤ R.frames ∧ 8 + (maxL + 11) + rm.locals ≤ R.locals) (hdg : decode cc pc = .ok (.invokevirtual index, 3)) (hf : cells + rm.cells ≤ R.cells ∧ slots + rm.slots ≤ R.slots) :
    va_Run p l e R s m args below meth c H locs cells slots rm.cells rm.slots (F0 m pc ls st0) rest (QA H (va_A wc H.size) (Value.ref b :: As).toArray) (va_A wc H.size) := by
  have hrv := va_recv hK hP hcl he
  rw [hq] at hrv
  exact va_runVN (g := F0 m pc ls st0) (As := As) (rest := rest) hC (hM H) ⟨k_cn hC hN hmi hlink hR, hC.2.2.2.2 _ hin, hC.2.2.2.2 _ hse⟩ ⟨PWG.blind, hrv, k_preG hN hZ hS hA hK hP hD isC hiC hnC⟩ rfl hnum hsz hst (lv_room hcat) hdg hf
theorem k_rSG (hC : CallFix p m c cc nL s args gw own) (hN : NW s) (hZ : SW A s s.heap) (hS : va_S A s.heap H locs) (hA : ∀ q, s.heap.size ≤ q → A q) (hK : va_K G cl tys s) (hP : va_P G cl ws H) (hD : va_D A ws) (hM : ConG l G tys y bytes maxL ret rm As wc QA) (isC : List Nat) (hiC : isC.map (fun i => ws[i]?) = wc.map some) (hnC : va_nd isC = true)
    (hmi : MI y bytes maxL ret n) (hst1 : Cond.static y ∈ gw) (hlink : Cond.methodLink own index y ∈ gw)
    (hsz : ls.size = nL) (hnum : As.length = n) (hst : st0 = As.reverse ++ rest) (hcat : (rest.map fun v => v.category).sum ≤ 8) (hR : rm.frames + 1 ≤ R.frames ∧ 8 + (maxL + 11) + rm.locals ≤ R.locals) (hdg : decode cc pc = .ok (.invokestatic index, 3)) (hf : cells + rm.cells ≤ R.cells ∧ slots + rm.slots ≤ R.slots) :
    va_Run p l e R s m args below meth c H locs cells slots rm.cells rm.slots (F0 m pc ls st0) rest (QA H (va_A wc H.size) As.toArray) (va_A wc H.size) :=
  va_runS (g := F0 m pc ls st0) (As := As) (rest := rest) hC (hM H) ⟨k_cb hC hmi hlink hR, hC.2.2.2.2 _ hst1⟩ ⟨PWG.blind, k_preG hN hZ hS hA hK hP hD isC hiC hnC⟩ rfl hnum hsz hst (lv_room hcat) hdg hf
variable {a : Array Value} {mc ms : Nat}
theorem k_ciG {S : Type} {post : Int32 → S → Prop} {w1 : S → va_W} {g1 : Nat} {gn : S → Nat} (hr : va_Run p l e R s m args below meth c H locs cells slots mc ms (F0 m pc ls st0) rest (QIG G tys g1 gn post w1 H (va_A wc H.size) a) (va_A wc H.size)) (hP : va_P G cl ws H) (hD : va_D A ws) (hS : va_S A s.heap H locs) (hA : ∀ q, s.heap.size ≤ q → A q) (isC isR : List Nat) (hiC : isC.map (fun i => ws[i]?) = wc.map some) (hiR : isR.map (fun i => ws[i]?) = wr.map some) (hnR : va_nd isR = true) (hdis : ∀ i ∈ isR, i ∉ isC)
    (kk : ∀ (r : Int32) (u : S) (H1 : Heap) (locs1 : List Loc), post r u → va_P G cl (wr ++ w1 u) H1 → va_D A (wr ++ w1 u) → va_S A s.heap H1 locs1 → GR H H1 (gn u - g1) (fs (gn u) - fs g1) → W p l e R s m args below meth c H1 locs1 (cells + mc) (slots + ms) Q (F0 m (pc + 3) ls (.int r :: rest))) : W p l e R s m args below meth c H locs cells slots Q (F0 m pc ls st0) := by
  have hFc := va_free (wc := wc) hD hS hA isC hiC
  refine va_calli hr hS (fun q _ h => hFc q h) hFc (fun r u t H1 locs1 ht hvm hw hB hz1 hk1 hS1 => ?_)
  obtain ⟨⟨hP1, hK1, hD1⟩, hg⟩ := hB
  rw [ht] at hP1 hg
  obtain ⟨hP2, hD2⟩ := va_join (wr := wr) (w1 := w1 u) hP hD isC isR hiC hiR hnR hdis hk1 hFc hP1 hD1
  exact kk r u H1 locs1 hw hP2 hD2 hS1 hg
theorem k_cvG {S : Type} {post : S → Prop} {w1 : S → va_W} {g1 : Nat} {gn : S → Nat} (hr : va_Run p l e R s m args below meth c H locs cells slots mc ms (F0 m pc ls st0) rest (QVG G tys g1 gn post w1 H (va_A wc H.size) a) (va_A wc H.size)) (hP : va_P G cl ws H) (hD : va_D A ws) (hS : va_S A s.heap H locs) (hA : ∀ q, s.heap.size ≤ q → A q) (isC isR : List Nat) (hiC : isC.map (fun i => ws[i]?) = wc.map some) (hiR : isR.map (fun i => ws[i]?) = wr.map some) (hnR : va_nd isR = true) (hdis : ∀ i ∈ isR, i ∉ isC)
    (kk : ∀ (u : S) (H1 : Heap) (locs1 : List Loc), post u → va_P G cl (wr ++ w1 u) H1 → va_D A (wr ++ w1 u) → va_S A s.heap H1 locs1 → GR H H1 (gn u - g1) (fs (gn u) - fs g1) → W p l e R s m args below meth c H1 locs1 (cells + mc) (slots + ms) Q (F0 m (pc + 3) ls rest)) : W p l e R s m args below meth c H locs cells slots Q (F0 m pc ls st0) := by
  have hFc := va_free (wc := wc) hD hS hA isC hiC
  refine va_callv hr hS (fun q _ h => hFc q h) hFc (fun u t H1 locs1 ht hvm hw hB hz1 hk1 hS1 => ?_)
  obtain ⟨⟨hP1, hK1, hD1⟩, hg⟩ := hB
  rw [ht] at hP1 hg
  obtain ⟨hP2, hD2⟩ := va_join (wr := wr) (w1 := w1 u) hP hD isC isR hiC hiR hnR hdis hk1 hFc hP1 hD1
  exact kk u H1 locs1 hw hP2 hD2 hS1 hg
theorem k_iretG {S : Type} {post : Int32 → S → Prop} {w1 : S → va_W} {g : Nat} {gn : S → Nat} {v : Int32} (hC : CallFix p m c cc nL s args gw own) (hr : meth.sig.returnType = some .int) (hlk : meth.locks = false) (hK : va_K G cl tys s) (hP : va_P G cl ws H) (hD : va_D A ws) (hS : va_S A s.heap H locs) (u : S) (is : List Nat) (hi : is.map (fun i => ws[i]?) = (w1 u).map some) (hn : va_nd is = true) (hp : post v u) (hgr : GR s.heap H (gn u - g) (fs (gn u) - fs g)) (hc : cells ≤ mc) (hs : slots ≤ ms) (hdg : decode cc pc = .ok (.ireturn, 1)) :
    W p l e R s m args below meth c H locs cells slots (MQ below (QIG G tys g gn post w1 s.heap A) args s mc ms A) (F0 m pc ls [.int v]) := by
  refine W.widen (k := mc) (n := ms) hc hs ?_
  exact W.iret hC.1 hC.2.1 hr (fun t ht hW => ⟨⟨v, u, rfl, hp, k_end hP hD hK is hi hn ht hW, by rw [ht]; exact hgr⟩, hS.F ht⟩) hS.2.2 hdg hlk
theorem k_vretG {S : Type} {post : S → Prop} {w1 : S → va_W} {g : Nat} {gn : S → Nat} (hC : CallFix p m c cc nL s args gw own) (hr : meth.sig.returnType = none) (hlk : meth.locks = false) (hK : va_K G cl tys s) (hP : va_P G cl ws H) (hD : va_D A ws) (hS : va_S A s.heap H locs) (u : S) (is : List Nat) (hi : is.map (fun i => ws[i]?) = (w1 u).map some) (hn : va_nd is = true) (hp : post u) (hgr : GR s.heap H (gn u - g) (fs (gn u) - fs g)) (hc : cells ≤ mc) (hs : slots ≤ ms) (hdg : decode cc pc = .ok (.return_, 1)) :
    W p l e R s m args below meth c H locs cells slots (MQ below (QVG G tys g gn post w1 s.heap A) args s mc ms A) (F0 m pc ls []) := by
  refine W.widen (k := mc) (n := ms) hc hs ?_
  exact W.vret hC.1 hC.2.1 hr (fun t ht hW => ⟨⟨u, rfl, hp, k_end hP hD hK is hi hn ht hW, by rw [ht]; exact hgr⟩, hS.F ht⟩) hS.2.2 hdg hlk
end KCG

def KKf (off : Nat → Int32) (st : Int) : Nat → Int
  | 0 => 1
  | n + 1 => if 5 - (n : Int) < st then (2 * gI off (5 - (n : Int)) + 1) * KKf off st n else 1
theorem KKf_pos {off : Nat → Int32} (h : TA 0 4 off) (st : Int) (n : Nat) : 1 ≤ KKf off st n := by
  induction n with
  | zero => exact Int.le_refl _
  | succ n ih =>
    unfold KKf
    by_cases hs : 5 - (n : Int) < st
    · rw [if_pos hs]
      have hg := gI_r h (5 - (n : Int))
      have := mul_bd (X := 2 * gI off (5 - (n : Int)) + 1 - 1) (Y := KKf off st n) (a := 8) (b := KKf off st n) (by omega) (by omega) (by omega) (Int.le_refl _)
      rw [Int.sub_mul, Int.one_mul] at this
      omega
    · rw [if_neg hs]; exact Int.le_refl _
theorem KKf_in {off : Nat → Int32} {st : Int} (n : Nat) {s : Int} (hn : s = 5 - (n : Int)) (hs : s < st) : KKf off st (n + 1) = (2 * gI off s + 1) * KKf off st n := by
  subst hn
  show (if 5 - (n : Int) < st then _ else _) = _
  rw [if_pos hs]
theorem KKf_out {off : Nat → Int32} {st : Int} (n : Nat) (hs : st ≤ 6 - (n : Int)) : KKf off st n = 1 := by
  cases n with
  | zero => rfl
  | succ n =>
    show (if 5 - (n : Int) < st then _ else _) = _
    rw [if_neg (by omega)]
def NR (lo0 hi0 lo hi : Int) : Prop := lo0 ≤ lo ∧ (hi ≤ hi0 ∨ hi < lo)
theorem NR.rf {a b : Int} : NR a b a b := ⟨Int.le_refl _, Or.inl (Int.le_refl _)⟩
theorem NR.tr {a b c d e f : Int} (h : NR a b c d) (g : NR c d e f) : NR a b e f := by
  unfold NR at *; omega
def SPn (off least most : Nat → Int32) (st : Int) : Prop := ∀ j : Int, 0 ≤ j → j < st → gI most j - gI least j ≤ 2 * gI off j
def LK (sz w la k B : Int) : Prop := sz ≤ B ∧ (w ≤ la → sz + (la + 1 - w) * k ≤ B)
theorem LK.step {sz sz' w w' la k B : Int} (h : LK sz w la k B) (hw : w ≤ la) (h1 : sz' ≤ sz + k) (hw' : w' = w + 1) (hk : 0 ≤ k) : LK sz' w' la k B := by
  have h2 := h.2 hw
  have e : (la + 1 - w) * k = (la + 1 - w') * k + k := by rw [show la + 1 - w = (la + 1 - w') + 1 by omega, Int.add_mul, Int.one_mul]
  have p : 0 ≤ (la + 1 - w') * k := Int.mul_nonneg (by omega) hk
  exact ⟨by omega, fun _ => by omega⟩
theorem LK.use {sz w la k B : Int} (h : LK sz w la k B) (hw : w ≤ la) (hk : 0 ≤ k) : sz + k ≤ B := by
  have h2 := h.2 hw
  have e : (la + 1 - w) * k = (la - w) * k + k := by rw [show la + 1 - w = (la - w) + 1 by omega, Int.add_mul, Int.one_mul]
  have p : 0 ≤ (la - w) * k := Int.mul_nonneg (by omega) hk
  omega
theorem LK.start {sz w la k B D : Int} (h0 : sz ≤ B) (h1 : w ≤ la → la + 1 - w ≤ D) (hk : 0 ≤ k) (h2 : sz + D * k ≤ B) : LK sz w la k B := by
  refine ⟨h0, fun hw => ?_⟩
  have p : 0 ≤ (D - (la + 1 - w)) * k := Int.mul_nonneg (by have := h1 hw; omega) hk
  rw [Int.sub_mul] at p
  omega
def PB (pl ph : Nat → Int32) : Prop := ∀ j : Int, 0 ≤ j → j < 2 → gI pl j ≤ gI ph j ∧ gI ph j ≤ gI pl j + 4

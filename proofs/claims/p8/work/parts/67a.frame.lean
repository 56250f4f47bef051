
/-! a contract over a larger world; a call beside an opaque world -/
def tg (ws w1 : va_W) (n : Nat) : Option (Nat × va_E) := cond (Nat.ble 1000 n) (w1[n - 1000]?) (ws[n]?)
theorem va_joinT {A0 : Nat → Prop} {D : va_G} {cl : List vw_C} {ws wc w1 w2 : va_W} {H H1 : Heap} (hP : va_P D cl ws H) (hD : va_D A0 ws) (isC ts : List Nat) (hC : isC.map (fun i => ws[i]?) = wc.map some)
    (hn : va_nd ts = true) (hdis : ∀ t ∈ ts, Nat.ble 1000 t = false → t ∉ isC) (ht : ts.map (tg ws w1) = w2.map some)
    (hk : ∀ q : Nat, q < H.size → ¬ va_A wc H.size q → H1[q]? = H[q]?) (hF : ∀ q, va_A wc H.size q → A0 q) (hP1 : va_P D cl w1 H1) (hD1 : va_D (va_A wc H.size) w1) : va_P D cl w2 H1 ∧ va_D A0 w2 := by
  have at' : ∀ {is : List Nat} {w : va_W} {f : Nat → Option (Nat × va_E)}, is.map f = w.map some → ∀ (k : Nat) (q : Nat × va_E), w[k]? = some q → ∃ i, is[k]? = some i ∧ f i = some q := by
    intro is w f hs k q hq
    have h1 : (is.map f)[k]? = some (some q) := by rw [hs, List.getElem?_map, hq]; rfl
    rw [List.getElem?_map] at h1
    cases hi : is[k]? with
    | none => rw [hi] at h1; cases h1
    | some i => rw [hi] at h1; exact ⟨i, rfl, Option.some.inj h1⟩
  have old : ∀ (t : Nat) (q : Nat × va_E), t ∈ ts → Nat.ble 1000 t = false → ws[t]? = some q → q.1 < H.size ∧ ¬ va_A wc H.size q.1 := by
    intro t q hm hb h2
    have hl := (hP t q h2).lt
    refine ⟨hl, fun h => ?_⟩
    rcases h with ⟨k2, e, h⟩ | h
    · obtain ⟨j, h3, h4⟩ := at' hC k2 (q.1, e) h
      have hij := hD.1 t j q (q.1, e) h2 h4 rfl
      subst hij
      exact hdis t hm hb (List.mem_of_getElem? h3)
    · omega
  have one : ∀ (k : Nat) (q : Nat × va_E), w2[k]? = some q → ∃ t, ts[k]? = some t ∧ ((Nat.ble 1000 t = true ∧ w1[t - 1000]? = some q) ∨ (Nat.ble 1000 t = false ∧ ws[t]? = some q)) := by
    intro k q hq
    obtain ⟨t, h1, h2⟩ := at' ht k q hq
    refine ⟨t, h1, ?_⟩
    unfold tg at h2
    cases hb : Nat.ble 1000 t with
    | true => rw [hb] at h2; exact Or.inl ⟨rfl, h2⟩
    | false => rw [hb] at h2; exact Or.inr ⟨rfl, h2⟩
  refine ⟨fun k q hq => ?_, fun i j x y hi hj hxy => ?_, fun k q hq => ?_⟩
  · obtain ⟨t, h1, ⟨hb, h2⟩ | ⟨hb, h2⟩⟩ := one k q hq
    · exact hP1 _ q h2
    · obtain ⟨g1, g2⟩ := old t q (List.mem_of_getElem? h1) hb h2
      exact (hP t q h2).kept (hk q.1 g1 g2)
  · obtain ⟨t, a1, a2⟩ := one i x hi
    obtain ⟨t', b1, b2⟩ := one j y hj
    have ett : t = t' := by
      rcases a2 with ⟨ha, a2⟩ | ⟨ha, a2⟩ <;> rcases b2 with ⟨hb, b2⟩ | ⟨hb, b2⟩
      · have h0 := hD1.1 _ _ x y a2 b2 hxy
        have h1 := Nat.le_of_ble_eq_true ha
        have h2 := Nat.le_of_ble_eq_true hb
        omega
      · have h0 := hD1.2 _ x a2
        rw [hxy] at h0
        exact absurd h0 (old t' y (List.mem_of_getElem? b1) hb b2).2
      · have h0 := hD1.2 _ y b2
        rw [← hxy] at h0
        exact absurd h0 (old t x (List.mem_of_getElem? a1) ha a2).2
      · exact hD.1 _ _ x y a2 b2 hxy
    subst ett
    exact va_nd_inj ts hn i j t a1 b1
  · obtain ⟨t, h1, ⟨hb, h2⟩ | ⟨hb, h2⟩⟩ := one k q hq
    · exact hF q.1 (hD1.2 _ q h2)
    · exact hD.2 t q h2
theorem va_A.subC {ws wc : va_W} {sz : Nat} (isC : List Nat) (hC : isC.map (fun i => ws[i]?) = wc.map some) : ∀ q, va_A wc sz q → va_A ws sz q := by
  intro q h
  rcases h with ⟨k, e, h⟩ | h
  · have h1 : (isC.map (fun i => ws[i]?))[k]? = some (some (q, e)) := by rw [hC, List.getElem?_map, h]; rfl
    rw [List.getElem?_map] at h1
    cases hi : isC[k]? with
    | none => rw [hi] at h1; cases h1
    | some i => rw [hi] at h1; exact Or.inl ⟨i, e, Option.some.inj h1⟩
  · exact Or.inr h
section FRC
variable {l : Launch} {G : va_G} {tys : List (ClassId × FieldType)} {y : MethodName} {cc : ByteArray} {nL : Nat} {ret : Option FieldType} {rm : Room} {av : List Value} {wc ws : va_W} {S S' : Type} {post : Int32 → S → Prop} {w1 : S → va_W} {post' : Int32 → S' → Prop} {w2 : S' → va_W}
theorem PW.fr {sz : Nat} (isC : List Nat) (hC : isC.map (fun i => ws[i]?) = wc.map some) (hn : va_nd isC = true) {a : Array Value} {s : State} (h : PW G tys av ws sz a s) : PW G tys av wc sz a s := by
  obtain ⟨h0, h1, h2, h3, h4, h5, h6⟩ := h
  exact ⟨h0, h1, h2.subm isC hC, h3, h4.sub isC hn hC, h5, h6.narrow (va_A.subC isC hC)⟩
theorem BW.fr {a : Array Value} {s t : State} {wa wb : va_W} (hp : PW G tys av ws s.heap.size a s) (isC : List Nat) (hC : isC.map (fun i => ws[i]?) = wc.map some) (hb : BW G tys (va_A wc s.heap.size) wa t) (hF : va_F (va_A wc s.heap.size) s t)
    (hts : ∃ ts : List Nat, va_nd ts = true ∧ (∀ t ∈ ts, Nat.ble 1000 t = false → t ∉ isC) ∧ ts.map (tg ws wa) = wb.map some) : BW G tys (va_A ws s.heap.size) wb t := by
  obtain ⟨h0, h1, h2, h3, h4, h5, h6⟩ := hp
  obtain ⟨hP1, hK1, hD1⟩ := hb
  obtain ⟨ts, q1, q2, q3⟩ := hts
  obtain ⟨hP2, hD2⟩ := va_joinT h2 (h4.self (sz := s.heap.size)) isC ts hC q1 q2 q3 hF.2 (va_A.subC isC hC) hP1 hD1
  exact ⟨hP2, hK1, hD2⟩
theorem va_F.fr {sz : Nat} {s t : State} (isC : List Nat) (hC : isC.map (fun i => ws[i]?) = wc.map some) (hF : va_F (va_A wc sz) s t) : va_F (va_A ws sz) s t := ⟨hF.1, fun q h1 h2 => hF.2 q h1 (fun h => h2 (va_A.subC isC hC q h))⟩
theorem Con.fr (hM : Con l G tys y cc nL ret rm av wc (QI G tys post w1)) (isC : List Nat) (hC : isC.map (fun i => ws[i]?) = wc.map some) (hn : va_nd isC = true)
    (kk : ∀ r u, post r u → ∃ u', post' r u' ∧ ∃ ts : List Nat, va_nd ts = true ∧ (∀ t ∈ ts, Nat.ble 1000 t = false → t ∉ isC) ∧ ts.map (tg ws (w1 u)) = (w2 u').map some) : Con l G tys y cc nL ret rm av ws (QI G tys post' w2) := by
  intro sz
  refine MetFree.mono (hM sz) (fun a s h => PW.fr isC hC hn h) (fun _ _ _ _ _ h => h) ?_
  intro a s o t hp hq
  obtain ⟨⟨⟨r, u, ho, hpo, hb⟩, hF⟩, L, hE, hL⟩ := hq
  obtain ⟨u', k1, k2⟩ := kk r u hpo
  have hsz : s.heap.size = sz := hp.2.1
  subst hsz
  exact ⟨⟨⟨r, u', ho, k1, BW.fr hp isC hC hb hF k2⟩, va_F.fr isC hC hF⟩, L, hE, fun q hq => va_A.subC isC hC _ (hL q hq)⟩
theorem ConG.fr {g : Nat} {gn : S → Nat} {gn' : S' → Nat} (hM : ConG l G tys y cc nL ret rm av wc (QIG G tys g gn post w1)) (isC : List Nat) (hC : isC.map (fun i => ws[i]?) = wc.map some) (hn : va_nd isC = true)
    (kk : ∀ r u, post r u → ∃ u', (post' r u' ∧ gn' u' = gn u) ∧ ∃ ts : List Nat, va_nd ts = true ∧ (∀ t ∈ ts, Nat.ble 1000 t = false → t ∉ isC) ∧ ts.map (tg ws (w1 u)) = (w2 u').map some) : ConG l G tys y cc nL ret rm av ws (QIG G tys g gn' post' w2) := by
  intro H0
  refine MetFree.mono (hM H0) (fun a s h => ⟨PW.fr isC hC hn h.1, h.2⟩) (fun _ _ _ _ _ h => h) ?_
  intro a s o t hp hq
  obtain ⟨⟨⟨r, u, ho, hpo, hb, hgr⟩, hF⟩, L, hE, hL⟩ := hq
  obtain ⟨u', ⟨k1, kg⟩, k2⟩ := kk r u hpo
  obtain ⟨hp1, hp2⟩ := hp
  subst hp2
  refine ⟨⟨⟨r, u', ho, k1, BW.fr hp1 isC hC hb hF k2, ?_⟩, va_F.fr isC hC hF⟩, L, hE, fun q hq => va_A.subC isC hC _ (hL q hq)⟩
  show GR s.heap t.heap (gn' u' - g) (fs (gn' u') - fs g)
  rw [kg]
  exact hgr
end FRC
theorem ap_l {w v : va_W} {k : Nat} {q : Nat × va_E} (h : w[k]? = some q) : k < w.length ∧ (w ++ v)[k]? = some q := by
  have hk : k < w.length := by
    rcases Nat.lt_or_ge k w.length with h1 | h1
    · exact h1
    · rw [List.getElem?_eq_none h1] at h; cases h
  exact ⟨hk, by rw [List.getElem?_append_left hk]; exact h⟩
theorem ap_r {w v : va_W} {k : Nat} {q : Nat × va_E} (h : v[k]? = some q) : (w ++ v)[w.length + k]? = some q := by
  rw [List.getElem?_append_right (by omega), show w.length + k - w.length = k by omega]; exact h
theorem va_joinA {A0 : Nat → Prop} {D : va_G} {cl : List vw_C} {wc wr w1 : va_W} {H H1 : Heap} (hP : va_P D cl (wc ++ wr) H) (hD : va_D A0 (wc ++ wr))
    (hk : ∀ q : Nat, q < H.size → ¬ va_A wc H.size q → H1[q]? = H[q]?) (hF : ∀ q, va_A wc H.size q → A0 q) (hP1 : va_P D cl w1 H1) (hD1 : va_D (va_A wc H.size) w1) : va_P D cl (wr ++ w1) H1 ∧ va_D A0 (wr ++ w1) := by
  have apart : ∀ (k : Nat) (q : Nat × va_E), wr[k]? = some q → q.1 < H.size ∧ ¬ va_A wc H.size q.1 := by
    intro k q hq
    have h2 := ap_r (w := wc) hq
    have hl := (hP _ q h2).lt
    refine ⟨hl, fun h => ?_⟩
    rcases h with ⟨k2, e, h⟩ | h
    · obtain ⟨h3, h4⟩ := ap_l (v := wr) h
      have h5 := hD.1 _ _ q (q.1, e) h2 h4 rfl
      omega
    · omega
  refine ⟨va_P.app (fun k q hq => (hP _ q (ap_r (w := wc) hq)).kept (hk q.1 (apart k q hq).1 (apart k q hq).2)) hP1, va_D.app ⟨fun i j x y hx hy hxy => ?_, fun k q hq => hD.2 _ q (ap_r (w := wc) hq)⟩ (hD1.weaken (fun k q _ h => hF q.1 h)) (fun i j x y hx hy hxy => (apart i x hx).2 (by rw [hxy]; exact hD1.2 j y hy))⟩
  have h5 := hD.1 _ _ x y (ap_r (w := wc) hx) (ap_r (w := wc) hy) hxy
  omega
section KLC
variable {p : Program} {l : Launch} {e : Env} {R : Room} {s : State} {m : MethodId} {args : Array Value} {below : List Frame} {meth : Method} {c : Code} {H : Heap} {locs : List Loc} {cells slots : Nat} {Q : State → Prop} {cc bytes : ByteArray} {nL maxL index n pc : Nat} {own : String} {y : MethodName} {ret : Option FieldType} {rm : Room} {G : va_G} {tys : List (ClassId × FieldType)} {A : Nat → Prop} {wc wr : va_W} {ls : Array Slot} {As st0 rest : List Value} {b : Nat}
theorem va_freeA (hD : va_D A (wc ++ wr)) (hS : va_S A s.heap H locs) (hA : ∀ q, s.heap.size ≤ q → A q) : ∀ q, va_A wc H.size q → A q := by
  intro q h
  rcases h with ⟨k, e, h⟩ | h
  · exact hD.2 _ (q, e) (ap_l (v := wr) h).2
  · exact hA q (Nat.le_trans hS.1 h)
theorem k_preA {av : List Value} (hN : NW s) (hZ : SW A s s.heap) (hS : va_S A s.heap H locs) (hA : ∀ q, s.heap.size ≤ q → A q) (hK : va_K G cl tys s) (hP : va_P G cl (wc ++ wr) H) (hD : va_D A (wc ++ wr)) : ∀ U : State, U.heap = H → s.WarmedH U.vm → PWG G tys av wc H av.toArray U := by
  intro U hU hW
  refine ⟨⟨rfl, by rw [hU], by rw [hU]; exact fun k q hk => hP k q (ap_l (v := wr) hk).2, va_K.moved hW.alike hK, ⟨fun i j x y hx hy hxy => hD.1 _ _ x y (ap_l (v := wr) hx).2 (ap_l (v := wr) hy).2 hxy, fun _ _ _ => trivial⟩, NW.warm hW hN, by rw [hU]; exact ((hZ.kept hS.2.1).moved hW.alike).narrow (va_freeA hD hS hA)⟩, hU⟩
/-- invokevirtual on the world ahead: it comes back behind -/
theorem k_L {S : Type} {post : Int32 → S → Prop} {w1 : S → va_W} (hC : CallFix p m c cc nL s args gw own) (hN : NW s) (hZ : SW A s s.heap) (hS : va_S A s.heap H locs) (hA : ∀ q, s.heap.size ≤ q → A q) (hK : va_K G cl tys s) (hP : va_P G cl (wc ++ wr) H) (hD : va_D A (wc ++ wr)) (hM : Con l G tys y bytes maxL ret rm (.ref b :: As) wc (QI G tys post w1))
    (hmi : MI y bytes maxL ret n) (hin : Cond.instanceMethod y ∈ gw) (hse : Cond.selects y.cls y y ∈ gw) (hlink : Cond.methodLink own index y ∈ gw) (ci : Nat) {q : vw_C} (hcl : cl[ci]? = some q) (hq : q.1 = y.cls) (he : ∃ fs, wc[0]? = some (b, .inr (ci, fs)))
    (hsz : ls.size = nL) (hnum : As.length = n) (hst : st0 = As.reverse ++ .ref b :: rest) (hcat : (rest.map fun v => v.category).sum ≤ 8) (hR : rm.frames + 1 ≤ R.frames ∧ 8 + (maxL + 11) + rm.locals ≤ R.locals) (hdg : decode cc pc = .ok (.invokevirtual index, 3)) (h0 : rm.cells = 0 ∧ rm.slots = 0) (hf : cells + 0 ≤ R.cells ∧ slots + 0 ≤ R.slots)
    (kk : ∀ (r : Int32) (u : S) (H1 : Heap) (locs1 : List Loc), post r u → va_P G cl (wr ++ w1 u) H1 → va_D A (wr ++ w1 u) → va_S A s.heap H1 locs1 → W p l e R s m args below meth c H1 locs1 cells slots Q (F0 m (pc + 3) ls (.int r :: rest))) : W p l e R s m args below meth c H locs cells slots Q (F0 m pc ls st0) := by
  obtain ⟨fs, he⟩ := he
  have hrv := va_recv hK hP hcl (ap_l (v := wr) he).2
  rw [hq] at hrv
  have hFc := va_freeA hD hS hA
  have hrun := va_runV (e := e) (below := below) (meth := meth) (locs := locs) (cells := cells) (slots := slots) (R := R) (g := F0 m pc ls st0) (As := As) (rest := rest) hC (hM H.size) ⟨k_cb hC hmi hlink hR, hC.2.2.2.2 _ hin, hC.2.2.2.2 _ hse⟩ ⟨PW.blind, hrv, fun U hU hW => (k_preA (av := .ref b :: As) hN hZ hS hA hK hP hD U hU hW).1⟩ rfl hnum hsz hst (lv_room hcat) hdg (by rw [h0.1, h0.2]; exact hf)
  refine va_calli hrun hS (fun q _ h => hFc q h) hFc (fun r u t H1 locs1 ht hvm hw hB hz1 hk1 hS1 => ?_)
  obtain ⟨hP1, hK1, hD1⟩ := hB
  rw [ht] at hP1
  obtain ⟨hP2, hD2⟩ := va_joinA hP hD hk1 hFc hP1 hD1
  rw [h0.1, h0.2]
  exact kk r u H1 locs1 hw hP2 hD2 hS1
theorem k_LG {S : Type} {post : Int32 → S → Prop} {w1 : S → va_W} {g1 : Nat} {gn : S → Nat} (hC : CallFix p m c cc nL s args gw own) (hN : NW s) (hZ : SW A s s.heap) (hS : va_S A s.heap H locs) (hA : ∀ q, s.heap.size ≤ q → A q) (hK : va_K G cl tys s) (hP : va_P G cl (wc ++ wr) H) (hD : va_D A (wc ++ wr)) (hM : ConG l G tys y bytes maxL ret rm (.ref b :: As) wc (QIG G tys g1 gn post w1))
    (hmi : MI y bytes maxL ret n) (hin : Cond.instanceMethod y ∈ gw) (hse : Cond.selects y.cls y y ∈ gw) (hlink : Cond.methodLink own index y ∈ gw) (ci : Nat) {q : vw_C} (hcl : cl[ci]? = some q) (hq : q.1 = y.cls) (he : ∃ fs, wc[0]? = some (b, .inr (ci, fs)))
    (hsz : ls.size = nL) (hnum : As.length = n) (hst : st0 = As.reverse ++ .ref b :: rest) (hcat : (rest.map fun v => v.category).sum ≤ 8) (hR : rm.frames + 1 ≤ R.frames ∧ 8 + (maxL + 11) + rm.locals ≤ R.locals) (hdg : decode cc pc = .ok (.invokevirtual index, 3)) (hf : cells + rm.cells ≤ R.cells ∧ slots + rm.slots ≤ R.slots)
    (kk : ∀ (r : Int32) (u : S) (H1 : Heap) (locs1 : List Loc), post r u → va_P G cl (wr ++ w1 u) H1 → va_D A (wr ++ w1 u) → va_S A s.heap H1 locs1 → GR H H1 (gn u - g1) (fs (gn u) - fs g1) → W p l e R s m args below meth c H1 locs1 (cells + rm.cells) (slots + rm.slots) Q (F0 m (pc + 3) ls (.int r :: rest))) : W p l e R s m args below meth c H locs cells slots Q (F0 m pc ls st0) := by
  obtain ⟨fs, he⟩ := he
  have hrv := va_recv hK hP hcl (ap_l (v := wr) he).2
  rw [hq] at hrv
  have hFc := va_freeA hD hS hA
  have hrun := va_runV (e := e) (below := below) (meth := meth) (locs := locs) (cells := cells) (slots := slots) (R := R) (g := F0 m pc ls st0) (As := As) (rest := rest) hC (hM H) ⟨k_cb hC hmi hlink hR, hC.2.2.2.2 _ hin, hC.2.2.2.2 _ hse⟩ ⟨PWG.blind, hrv, k_preA hN hZ hS hA hK hP hD⟩ rfl hnum hsz hst (lv_room hcat) hdg hf
  refine va_calli hrun hS (fun q _ h => hFc q h) hFc (fun r u t H1 locs1 ht hvm hw hB hz1 hk1 hS1 => ?_)
  obtain ⟨⟨hP1, hK1, hD1⟩, hg⟩ := hB
  rw [ht] at hP1 hg
  obtain ⟨hP2, hD2⟩ := va_joinA hP hD hk1 hFc hP1 hD1
  exact kk r u H1 locs1 hw hP2 hD2 hS1 hg
end KLC


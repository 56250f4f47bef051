
/-! frames of a bank, exact rows, and what the number of a fit gives -/
def TF (rb : Nat) (lo hi : Int) (g f : Nat → Int32) : Prop := TA lo hi f ∧ ∀ j, j / 6 ≠ rb → f j = g j
theorem TF.self {rb : Nat} {lo hi : Int} {f : Nat → Int32} (h : TA lo hi f) : TF rb lo hi f f := ⟨h, fun _ _ => rfl⟩
theorem TF.up {rb : Nat} {lo hi : Int} {g f : Nat → Int32} {i x : Int32} (h : TF rb lo hi g f) (h1 : lo ≤ x.toInt) (h2 : x.toInt ≤ hi) (h0 : 0 ≤ i.toInt) (hk : i.toInt / 6 = (rb : Int)) : TF rb lo hi g (upd f i.toNatClampNeg x) := ⟨h.1.up h1 h2, fun j hj => by
  have hc := cl_of0 h0
  have : j ≠ i.toNatClampNeg := by intro e; subst e; apply hj; omega
  rw [pk_un this]; exact h.2 j hj⟩
def gI (f : Nat → Int32) (j : Int) : Int := (f j.toNat).toInt
theorem gI_of {f : Nat → Int32} {i : Int32} {k : Int} (h : i.toInt = k) : (f i.toNatClampNeg).toInt = gI f k := by subst h; rfl
theorem gI_upd {f : Nat → Int32} {i x : Int32} (h0 : 0 ≤ i.toInt) {k : Int} (hi : i.toInt = k) (j : Int) (hj : 0 ≤ j) : gI (upd f i.toNatClampNeg x) j = if j = k then x.toInt else gI f j := by
  subst hi
  unfold gI
  by_cases h : j = i.toInt
  · subst h; rw [if_pos rfl, show i.toInt.toNat = i.toNatClampNeg from rfl, pk_us]
  · rw [if_neg h, pk_un (by rw [Int32.toNatClampNeg]; omega)]
theorem gI_r {lo hi : Int} {f : Nat → Int32} (h : TA lo hi f) (j : Int) : lo ≤ gI f j ∧ gI f j ≤ hi := h _
section TX
variable {p : Program} {l : Launch} {e : Env} {R : Room} {s : State} {m : MethodId} {args : Array Value} {below : List Frame} {meth : Method} {c : Code} {H : Heap} {locs : List Loc} {cells slots : Nat} {Q : State → Prop} {cc : ByteArray} {nL index pc : Nat} {own : String} {G : va_G} {tys : List (ClassId × FieldType)} {A : Nat → Prop} {ws : va_W} {ls : Array Slot} {rest : List Value} {a : Nat}
theorem t_ialdX (hC : CallFix p m c cc nL s args gw own) {cA cJ cB cZ : ClassId} (hK : va_K G cl (TY cA cJ cB cZ) s) (hP : va_P G cl ws H) (q0 : Nat) {n : Nat} {f : Nat → Int32} {i : Int32} (ha : ws[q0]? = some (a, .inl (cA, n, .inl f))) (h0 : 0 ≤ i.toInt) (h1 : i.toInt < (n : Int)) {lo hi : Int} (hT : TA lo hi f) (hdg : decode cc pc = .ok (.iaload, 1))
    (kk : ∀ x : Int32, lo ≤ x.toInt ∧ x.toInt ≤ hi → (∀ k : Int, i.toInt = k → x.toInt = gI f k) → W p l e R s m args below meth c H locs cells slots Q (F0 m (pc + 1) ls (.int x :: rest))) : W p l e R s m args below meth c H locs cells slots Q (F0 m pc ls (.int i :: .ref a :: rest)) :=
  va_iald hC.1 hC.2.1 hK hP q0 0 ha rfl (vp_in_iff.mpr ⟨h0, h1⟩) hdg (kk _ (hT _) (fun _ hk => gI_of hk))
theorem t_zaldX (hC : CallFix p m c cc nL s args gw own) {cI cJ cB cA : ClassId} (hK : va_K G cl (TY cI cJ cB cA) s) (hP : va_P G cl ws H) (q0 : Nat) {n : Nat} {f : Nat → Int32} {i : Int32} (ha : ws[q0]? = some (a, .inl (cA, n, .inl f))) (h0 : 0 ≤ i.toInt) (h1 : i.toInt < (n : Int)) {lo hi : Int} (hT : TA lo hi f) (hdg : decode cc pc = .ok (.baload, 1))
    (kk : ∀ x : Int32, lo ≤ x.toInt ∧ x.toInt ≤ hi → (∀ k : Int, i.toInt = k → x.toInt = gI f k) → W p l e R s m args below meth c H locs cells slots Q (F0 m (pc + 1) ls (.int x :: rest))) : W p l e R s m args below meth c H locs cells slots Q (F0 m pc ls (.int i :: .ref a :: rest)) :=
  va_zald hC.1 hC.2.1 hK hP q0 3 ha rfl (vp_in_iff.mpr ⟨h0, h1⟩) hdg (kk _ (hT _) (fun _ hk => gI_of hk))
theorem t_iastX (hC : CallFix p m c cc nL s args gw own) {cA cJ cB cZ : ClassId} (hK : va_K G cl (TY cA cJ cB cZ) s) (hP : va_P G cl ws H) (hD : va_D A ws) (hS : va_S A s.heap H locs) (q0 : Nat) {n : Nat} {f : Nat → Int32} {i x : Int32} (ha : ws[q0]? = some (a, .inl (cA, n, .inl f))) (h0 : 0 ≤ i.toInt) (h1 : i.toInt < (n : Int)) {lo hi : Int} (hT : TA lo hi f) (hx : lo ≤ x.toInt ∧ x.toInt ≤ hi) (hdg : decode cc pc = .ok (.iastore, 1))
    (kk : ∀ (f' : Nat → Int32) (H1 : Heap) (locs1 : List Loc), (∀ k : Int, i.toInt = k → ∀ j : Int, 0 ≤ j → gI f' j = if j = k then x.toInt else gI f j) → TA lo hi f' → va_P G cl (ws.set q0 (a, .inl (cA, n, .inl f'))) H1 → va_D A (ws.set q0 (a, .inl (cA, n, .inl f'))) → va_S A s.heap H1 locs1 → W p l e R s m args below meth c H1 locs1 cells slots Q (F0 m (pc + 1) ls rest)) : W p l e R s m args below meth c H locs cells slots Q (F0 m pc ls (.int x :: .int i :: .ref a :: rest)) :=
  va_iast hC.1 hC.2.1 hK hP hD hS q0 0 ha rfl (vp_in_iff.mpr ⟨h0, h1⟩) hdg (fun H1 locs1 => kk _ H1 locs1 (fun _ hk => gI_upd h0 hk) (hT.up hx.1 hx.2))
theorem t_iastF (hC : CallFix p m c cc nL s args gw own) {cA cJ cB cZ : ClassId} (hK : va_K G cl (TY cA cJ cB cZ) s) (hP : va_P G cl ws H) (hD : va_D A ws) (hS : va_S A s.heap H locs) (q0 : Nat) {n : Nat} {f : Nat → Int32} {i x : Int32} (ha : ws[q0]? = some (a, .inl (cA, n, .inl f))) (h0 : 0 ≤ i.toInt) (h1 : i.toInt < (n : Int)) {rb : Nat} {lo hi : Int} {g : Nat → Int32} (h6 : i.toInt / 6 = (rb : Int)) (hT : TF rb lo hi g f) (hx : lo ≤ x.toInt ∧ x.toInt ≤ hi) (hdg : decode cc pc = .ok (.iastore, 1))
    (kk : ∀ (f' : Nat → Int32) (H1 : Heap) (locs1 : List Loc), TF rb lo hi g f' → va_P G cl (ws.set q0 (a, .inl (cA, n, .inl f'))) H1 → va_D A (ws.set q0 (a, .inl (cA, n, .inl f'))) → va_S A s.heap H1 locs1 → W p l e R s m args below meth c H1 locs1 cells slots Q (F0 m (pc + 1) ls rest)) : W p l e R s m args below meth c H locs cells slots Q (F0 m pc ls (.int x :: .int i :: .ref a :: rest)) :=
  va_iast hC.1 hC.2.1 hK hP hD hS q0 0 ha rfl (vp_in_iff.mpr ⟨h0, h1⟩) hdg (fun H1 locs1 => kk _ H1 locs1 (hT.up hx.1 hx.2 h0 h6))
theorem t_zastF (hC : CallFix p m c cc nL s args gw own) {cI cJ cB cA : ClassId} (hK : va_K G cl (TY cI cJ cB cA) s) (hP : va_P G cl ws H) (hD : va_D A ws) (hS : va_S A s.heap H locs) (q0 : Nat) {n : Nat} {f : Nat → Int32} {i x : Int32} (ha : ws[q0]? = some (a, .inl (cA, n, .inl f))) (h0 : 0 ≤ i.toInt) (h1 : i.toInt < (n : Int)) {rb : Nat} {g : Nat → Int32} (h6 : i.toInt / 6 = (rb : Int)) (hT : TF rb 0 1 g f) (hdg : decode cc pc = .ok (.bastore, 1))
    (kk : ∀ (f' : Nat → Int32) (H1 : Heap) (locs1 : List Loc), TF rb 0 1 g f' → va_P G cl (ws.set q0 (a, .inl (cA, n, .inl f'))) H1 → va_D A (ws.set q0 (a, .inl (cA, n, .inl f'))) → va_S A s.heap H1 locs1 → W p l e R s m args below meth c H1 locs1 cells slots Q (F0 m (pc + 1) ls rest)) : W p l e R s m args below meth c H locs cells slots Q (F0 m pc ls (.int x :: .int i :: .ref a :: rest)) :=
  va_zast hC.1 hC.2.1 hK hP hD hS q0 3 ha rfl (vp_in_iff.mpr ⟨h0, h1⟩) hdg (fun H1 locs1 => kk _ H1 locs1 (hT.up (nar_z x).1 (nar_z x).2 h0 h6))
theorem t_iaxdX (hC : CallFix p m c cc nL s args gw own) {cA cJ cB cZ : ClassId} (hK : va_K G cl (TY cA cJ cB cZ) s) (hP : va_P G cl ws H) (q0 : Nat) {x0 x1 : Int32} {i : Int32} (ha : ws[q0]? = some (a, .inl (cA, 2, .inl (ex2 x0 x1)))) (h0 : 0 ≤ i.toInt) (h1 : i.toInt < ((2 : Nat) : Int)) {lo hi : Int} (hT : TB 2 lo hi (ex2 x0 x1)) (hdg : decode cc pc = .ok (.iaload, 1))
    (kk : ∀ x : Int32, lo ≤ x.toInt ∧ x.toInt ≤ hi → (x.toInt = if i.toInt = 0 then x0.toInt else x1.toInt) → W p l e R s m args below meth c H locs cells slots Q (F0 m (pc + 1) ls (.int x :: rest))) : W p l e R s m args below meth c H locs cells slots Q (F0 m pc ls (.int i :: .ref a :: rest)) := by
  have hc := cl_of0 h0
  refine va_iald hC.1 hC.2.1 hK hP q0 0 ha rfl (vp_in_iff.mpr ⟨h0, h1⟩) hdg (kk _ (hT _ (by omega)) ?_)
  rcases (show i.toNatClampNeg = 0 ∨ i.toNatClampNeg = 1 by omega) with h | h
  · rw [h, if_pos (by omega)]; rfl
  · rw [h, if_neg (by omega)]; rfl
theorem t_lX {x : Int64} (P : Int64 → Prop) (h : P x) (kk : ∀ z : Int64, P z → W p l e R s m args below meth c H locs cells slots Q (F0 m pc ls (.long z :: rest))) : W p l e R s m args below meth c H locs cells slots Q (F0 m pc ls (.long x :: rest)) := kk x h
end TX
theorem l2i_b (x : Int64) : 0 ≤ x.toInt → x.toInt ≤ 2147483647 → x.toInt32.toInt = x.toInt := by
  intro h1 h2
  rw [Int64.toInt_toInt32]
  exact bm (by omega) h2
theorem lcmp_b (x y : Int64) : (lg_cmp x y).toInt ≤ 0 → x.toInt ≤ y.toInt := by
  intro h
  by_cases h1 : y < x
  · have e1 : lg_cmp x y = 1 := by simp [lg_cmp, h1]
    rw [e1] at h; exact absurd h (by decide)
  · have h2 : ¬ y.toInt < x.toInt := fun q => h1 (Int64.lt_iff_toInt_lt.mpr q)
    omega
theorem mul_l {x y : Int64} (h1 : -9223372036854775808 ≤ x.toInt * y.toInt) (h2 : x.toInt * y.toInt ≤ 9223372036854775807) : (x * y).toInt = x.toInt * y.toInt := by
  rw [Int64.toInt_mul, Int.bmod_def]; omega
def inI (r a b c : Int32) : Prop := r.toInt ≠ 0 ↔ (b.toInt ≤ a.toInt ∧ a.toInt ≤ c.toInt)
def wdI (off : Nat → Int32) (bk j : Int) : Int := 2 * gI off (6 * bk + j) + 1
def qd (off : Nat → Int32) (bk st n : Int) : Nat → Int
  | 0 => n
  | i + 1 => qd off bk st n i / wdI off bk (st - 1 - (i : Int))
def dig (off : Nat → Int32) (bk st n j : Int) : Int := qd off bk st n (st - 1 - j).toNat % wdI off bk j
def p1I (off : Nat → Int32) (bk st pl1 ph1 n : Int) : Int := pl1 + qd off bk st n st.toNat % (ph1 - pl1 + 1)
def p0I (off : Nat → Int32) (bk st pl0 ph0 pl1 ph1 n : Int) : Int := pl0 + (qd off bk st n st.toNat / (ph1 - pl1 + 1)) % (ph0 - pl0 + 1)
def sdI (says town : Nat → Int32) (bk p0 p1 j : Int) : Int := gI says (6 * bk + j) * (if gI town (6 * bk + j) = 0 then p0 else p1)
def wtI (says town off : Nat → Int32) (bk st p0 p1 n j : Int) : Int := dig off bk st n j + (sdI says town bk p0 p1 j - gI off (6 * bk + j))
def okW (isM mL mH : Nat → Int32) (bk j w : Int) : Prop := 1 ≤ w ∧ (gI isM (6 * bk + j) = 0 ∨ (gI mL (6 * bk + j) ≤ w ∧ w ≤ gI mH (6 * bk + j)))
def OKn (bk : Int) (says town off isM mL mH : Nat → Int32) (st pl0 ph0 pl1 ph1 : Int32) (n : Int) : Prop :=
  ∀ j : Int, 0 ≤ j → j < st.toInt → okW isM mL mH bk j (wtI says town off bk st.toInt (p0I off bk st.toInt pl0.toInt ph0.toInt pl1.toInt ph1.toInt n) (p1I off bk st.toInt pl1.toInt ph1.toInt n) n j)
def FT (bk : Int) (says town off isM mL mH : Nat → Int32) (st pl0 ph0 pl1 ph1 fm : Int32) (ft : Nat → Int32) : Prop := ∀ i : Int, 0 ≤ i → i < fm.toInt → OKn bk says town off isM mL mH st pl0 ph0 pl1 ph1 (gI ft i)
def GI (bk : Int) (says town off isM mL mH : Nat → Int32) (st pl0 ph0 pl1 ph1 kn sp fm : Int32) (ft : Nat → Int32) : Prop := kn.toInt ≠ 0 → sp.toInt = 0 → FT bk says town off isM mL mH st pl0 ph0 pl1 ph1 fm ft
def TW (st : Int32) (f : Nat → Int32) : Prop := ∀ j : Int, 0 ≤ j → j < st.toInt → 1 ≤ gI f j
def LW1 (off : Nat → Int32) (bk : Int) (st n0 s n : Int32) (f : Nat → Int32) : Prop := n.toInt = qd off bk st.toInt n0.toInt (st.toInt - 1 - s.toInt).toNat ∧ ∀ j : Int, s.toInt < j → j < st.toInt → gI f j = dig off bk st.toInt n0.toInt j
def LW2 (bk : Int) (says town off isM mL mH : Nat → Int32) (st n0 p0 p1 s can : Int32) (f : Nat → Int32) : Prop :=
  (∀ j : Int, s.toInt ≤ j → j < st.toInt → gI f j = dig off bk st.toInt n0.toInt j) ∧
  (∀ j : Int, 0 ≤ j → j < s.toInt → gI f j = wtI says town off bk st.toInt p0.toInt p1.toInt n0.toInt j) ∧
  (can.toInt ≠ 0 ↔ ∀ j : Int, 0 ≤ j → j < s.toInt → okW isM mL mH bk j (wtI says town off bk st.toInt p0.toInt p1.toInt n0.toInt j))
theorem wdI_b {off : Nat → Int32} (h : TA 0 4 off) (bk j : Int) : 1 ≤ wdI off bk j ∧ wdI off bk j ≤ 9 := by
  have := gI_r h (6 * bk + j)
  unfold wdI; omega
theorem dig_b {off : Nat → Int32} (h : TA 0 4 off) (bk st n j : Int) : 0 ≤ dig off bk st n j ∧ dig off bk st n j ≤ 8 := by
  have h1 := wdI_b h bk j
  have h2 := Int.emod_nonneg (qd off bk st n (st - 1 - j).toNat) (b := wdI off bk j) (by omega)
  have h3 := Int.emod_lt_of_pos (qd off bk st n (st - 1 - j).toNat) (b := wdI off bk j) (by omega)
  unfold dig; omega
theorem LW1.start {off f : Nat → Int32} {bk : Int} {st n0 s : Int32} (hs : s.toInt = st.toInt - 1) : LW1 off bk st n0 s n0 f := by
  refine ⟨?_, fun j h1 h2 => by omega⟩
  rw [show (st.toInt - 1 - s.toInt).toNat = 0 by omega]; rfl
theorem LW1.step {off f f' : Nat → Int32} {bk : Int} {st n0 s n s' n' d d2 x : Int32} (h : LW1 off bk st n0 s n f) (h0 : 0 ≤ s.toInt) (h1 : s.toInt < st.toInt) (hd : d.toInt = wdI off bk s.toInt) (hd2 : d2.toInt = wdI off bk s.toInt) (hn : n'.toInt = n.toInt / d2.toInt) (hx : x.toInt = n.toInt % d.toInt) (hf : ∀ j : Int, 0 ≤ j → gI f' j = if j = s.toInt then x.toInt else gI f j) (hs : s'.toInt = s.toInt - 1) : LW1 off bk st n0 s' n' f' := by
  have e1 : (st.toInt - 1 - s'.toInt).toNat = (st.toInt - 1 - s.toInt).toNat + 1 := by omega
  refine ⟨?_, fun j h2 h3 => ?_⟩
  · rw [e1, hn, hd2, h.1]
    show _ = qd off bk st.toInt n0.toInt (st.toInt - 1 - s.toInt).toNat / wdI off bk (st.toInt - 1 - ((st.toInt - 1 - s.toInt).toNat : Int))
    rw [show st.toInt - 1 - ((st.toInt - 1 - s.toInt).toNat : Int) = s.toInt by omega]
  · rw [hf j (by omega)]
    by_cases hj : j = s.toInt
    · rw [if_pos hj, hx, hd, h.1, hj]; rfl
    · rw [if_neg hj]; exact h.2 j (by omega) h3
theorem p1_of {off : Nat → Int32} {bk : Int} {st n0 s n pl ph r z q : Int32} {f : Nat → Int32} (h : LW1 off bk st n0 s n f) (hs : s.toInt = -1) (hr : r.toInt = ph.toInt - pl.toInt + 1) (hz : z.toInt = n.toInt % r.toInt) (hq : q.toInt = pl.toInt + z.toInt) : q.toInt = p1I off bk st.toInt pl.toInt ph.toInt n0.toInt := by
  unfold p1I
  rw [hq, hz, hr, h.1, show (st.toInt - 1 - s.toInt).toNat = st.toInt.toNat by omega]
theorem p0_of {off : Nat → Int32} {bk : Int} {st n0 s n n1 pl0 ph0 pl1 ph1 r1 r0 z q : Int32} {f : Nat → Int32} (h : LW1 off bk st n0 s n f) (hs : s.toInt = -1) (hr1 : r1.toInt = ph1.toInt - pl1.toInt + 1) (hn : n1.toInt = n.toInt / r1.toInt) (hr0 : r0.toInt = ph0.toInt - pl0.toInt + 1) (hz : z.toInt = n1.toInt % r0.toInt) (hq : q.toInt = pl0.toInt + z.toInt) : q.toInt = p0I off bk st.toInt pl0.toInt ph0.toInt pl1.toInt ph1.toInt n0.toInt := by
  unfold p0I
  rw [hq, hz, hr0, hn, hr1, h.1, show (st.toInt - 1 - s.toInt).toNat = st.toInt.toNat by omega]
theorem LW2.start {bk : Int} {says town off isM mL mH f : Nat → Int32} {st n0 p0 p1 s n z : Int32} (h : LW1 off bk st n0 s n f) (hs : s.toInt = -1) (hz : z.toInt = 0) {can : Int32} (hc : can.toInt ≠ 0) : LW2 bk says town off isM mL mH st n0 p0 p1 z can f :=
  ⟨fun j h1 h2 => h.2 j (by omega) h2, fun j h1 h2 => by omega, ⟨fun _ j h1 h2 => by omega, fun _ => hc⟩⟩
theorem LW2.step {bk : Int} {says town off isM mL mH f f' : Nat → Int32} {st n0 p0 p1 s s' can can' w d x : Int32} (h : LW2 bk says town off isM mL mH st n0 p0 p1 s can f) (h0 : 0 ≤ s.toInt) (h1 : s.toInt < st.toInt) (hw : w.toInt = gI f s.toInt) (hd : d.toInt = sdI says town bk p0.toInt p1.toInt s.toInt - gI off (6 * bk + s.toInt)) (hx : x.toInt = w.toInt + d.toInt) (hf : ∀ j : Int, 0 ≤ j → gI f' j = if j = s.toInt then x.toInt else gI f j) (hs : s'.toInt = s.toInt + 1) (hc : can'.toInt ≠ 0 ↔ (can.toInt ≠ 0 ∧ okW isM mL mH bk s.toInt x.toInt)) : LW2 bk says town off isM mL mH st n0 p0 p1 s' can' f' := by
  have ex : x.toInt = wtI says town off bk st.toInt p0.toInt p1.toInt n0.toInt s.toInt := by
    unfold wtI; rw [hx, hw, hd, h.1 s.toInt (by omega) h1]
  refine ⟨fun j h2 h3 => ?_, fun j h2 h3 => ?_, ?_⟩
  · rw [hf j (by omega), if_neg (by omega)]; exact h.1 j (by omega) h3
  · rw [hf j h2]
    by_cases hj : j = s.toInt
    · rw [if_pos hj, ex, hj]
    · rw [if_neg hj]; exact h.2.1 j h2 (by omega)
  · rw [hc, ex, h.2.2]
    constructor
    · intro ⟨g1, g2⟩ j h2 h3
      by_cases hj : j = s.toInt
      · rw [hj]; exact g2
      · exact g1 j h2 (by omega)
    · intro g
      exact ⟨fun j h2 h3 => g j h2 (by omega), g s.toInt h0 (by omega)⟩
theorem LW2.iff {bk : Int} {says town off isM mL mH f : Nat → Int32} {st n0 p0 p1 s can pl0 ph0 pl1 ph1 : Int32} (h : LW2 bk says town off isM mL mH st n0 p0 p1 s can f) (hs : st.toInt = s.toInt) (h0 : p0.toInt = p0I off bk st.toInt pl0.toInt ph0.toInt pl1.toInt ph1.toInt n0.toInt) (h1 : p1.toInt = p1I off bk st.toInt pl1.toInt ph1.toInt n0.toInt) : can.toInt ≠ 0 ↔ OKn bk says town off isM mL mH st pl0 ph0 pl1 ph1 n0.toInt := by
  rw [h.2.2, h0, h1]
  unfold OKn
  rw [hs]
theorem LW2.tw {bk : Int} {says town off isM mL mH f : Nat → Int32} {st n0 p0 p1 s can : Int32} (h : LW2 bk says town off isM mL mH st n0 p0 p1 s can f) (hs : st.toInt = s.toInt) (hc : can.toInt ≠ 0) : TW st f := fun j h1 h2 => by
  rw [h.2.1 j h1 (by omega)]
  exact (h.2.2.mp hc j h1 (by omega)).1
theorem FT.step {bk : Int} {says town off isM mL mH f f' : Nat → Int32} {st pl0 ph0 pl1 ph1 fm fm' n : Int32} (h : FT bk says town off isM mL mH st pl0 ph0 pl1 ph1 fm f) (hf : ∀ k : Int, fm.toInt = k → ∀ j : Int, 0 ≤ j → gI f' j = if j = k then n.toInt else gI f j) (hm : fm'.toInt = fm.toInt + 1) (hn : OKn bk says town off isM mL mH st pl0 ph0 pl1 ph1 n.toInt) : FT bk says town off isM mL mH st pl0 ph0 pl1 ph1 fm' f' := by
  intro i h1 h2
  rw [hf _ rfl i h1]
  by_cases hi : i = fm.toInt
  · rw [if_pos hi]; exact hn
  · rw [if_neg hi]; exact h i h1 (by omega)
theorem FT.zero {bk : Int} {says town off isM mL mH f : Nat → Int32} {st pl0 ph0 pl1 ph1 fm : Int32} (h : fm.toInt = 0) : FT bk says town off isM mL mH st pl0 ph0 pl1 ph1 fm f := fun i h1 h2 => by omega
theorem GI.off {bk : Int} {says town off isM mL mH f : Nat → Int32} {st pl0 ph0 pl1 ph1 kn sp fm : Int32} (h : kn.toInt = 0) : GI bk says town off isM mL mH st pl0 ph0 pl1 ph1 kn sp fm f := fun q _ => absurd h q
theorem GI.spent {bk : Int} {says town off isM mL mH f : Nat → Int32} {st pl0 ph0 pl1 ph1 kn sp fm : Int32} (h : sp.toInt ≠ 0) : GI bk says town off isM mL mH st pl0 ph0 pl1 ph1 kn sp fm f := fun _ q => absurd q h
theorem GI.le {bk : Int} {says town off isM mL mH f : Nat → Int32} {st pl0 ph0 pl1 ph1 kn kn' sp fm : Int32} (h : GI bk says town off isM mL mH st pl0 ph0 pl1 ph1 kn sp fm f) (h1 : kn'.toInt ≠ 0 → kn.toInt ≠ 0) : GI bk says town off isM mL mH st pl0 ph0 pl1 ph1 kn' sp fm f := fun q => h (h1 q)
def PP (off : Nat → Int32) (bk : Int) : Nat → Int
  | 0 => 1
  | i + 1 => PP off bk i * wdI off bk (i : Int)
def LPr (off : Nat → Int32) (bk : Int) (b : Int) (s : Int32) (y : Int64) : Prop := y.toInt = b * PP off bk s.toInt.toNat ∧ 1 ≤ y.toInt ∧ y.toInt ≤ 186591 * 9 ^ s.toInt.toNat
theorem LPr.start {off : Nat → Int32} {bk b0 b1 b2 : Int} {s : Int32} {y0 y1 y2 y3 y4 : Int64} (g0 : 1 ≤ b0 ∧ b0 ≤ 111) (g1 : 1 ≤ b1 ∧ b1 ≤ 41) (g2 : 1 ≤ b2 ∧ b2 ≤ 41) (h0 : y0.toInt = b0) (h1 : y1.toInt = b1) (h2 : y2 = y0 * y1) (h3 : y3.toInt = b2) (h4 : y4 = y2 * y3) (hs : s.toInt = 0) : LPr off bk (b0 * b1 * b2) s y4 := by
  have b1_ := mul_bd (X := b0 - 1) (Y := b1) (a := 110) (b := 41) (by omega) (by omega) (by omega) (by omega)
  have b2_ := mul_bd (X := b0) (Y := b1) (a := 111) (b := 41) (by omega) (by omega) (by omega) (by omega)
  rw [Int.sub_mul, Int.one_mul] at b1_
  have e2 : y2.toInt = b0 * b1 := by rw [h2, mul_l (by rw [h0, h1]; omega) (by rw [h0, h1]; omega), h0, h1]
  have b3_ := mul_bd (X := b0 * b1 - 1) (Y := b2) (a := 4550) (b := 41) (by omega) (by omega) (by omega) (by omega)
  have b4_ := mul_bd (X := b0 * b1) (Y := b2) (a := 4551) (b := 41) (by omega) (by omega) (by omega) (by omega)
  rw [Int.sub_mul, Int.one_mul] at b3_
  have e4 : y4.toInt = b0 * b1 * b2 := by rw [h4, mul_l (by rw [e2, h3]; omega) (by rw [e2, h3]; omega), e2, h3]
  refine ⟨?_, by omega, ?_⟩
  · rw [hs, e4]; show _ = _ * 1; rw [Int.mul_one]
  · rw [hs, e4]; show _ ≤ (186591 : Int) * 1; omega
theorem LPr.fin {off : Nat → Int32} {bk b : Int} {s st : Int32} {y : Int64} (h : LPr off bk b s y) (hs : s.toInt = st.toInt) : y.toInt = b * PP off bk st.toInt.toNat ∧ 1 ≤ y.toInt := ⟨by rw [h.1, hs], h.2.1⟩
theorem LPr.step {off : Nat → Int32} (hT : TA 0 4 off) {bk b : Int} {s s' w : Int32} {y y1 y' : Int64} (h : LPr off bk b s y) (h0 : 0 ≤ s.toInt) (h1 : s.toInt ≤ 5) (hw : w.toInt = wdI off bk s.toInt) (hy1 : y1.toInt = w.toInt) (hy : y' = y * y1) (hs : s'.toInt = s.toInt + 1) : LPr off bk b s' y' := by
  have hb := wdI_b hT bk s.toInt
  have e1 : s'.toInt.toNat = s.toInt.toNat + 1 := by omega
  have h9 : (9 : Int) ^ s.toInt.toNat ≤ 9 ^ 5 := by
    have : ∀ k : Nat, k ≤ 5 → (9 : Int) ^ k ≤ 9 ^ 5 := by decide
    exact this _ (by omega)
  obtain ⟨g1, g2, g3⟩ := h
  have g4 : y.toInt ≤ 186591 * 59049 := Int.le_trans g3 (by have : (9 : Int) ^ 5 = 59049 := by decide
                                                            omega)
  have b1 := mul_bd (X := y.toInt) (Y := y1.toInt) (a := 186591 * 59049) (b := 9) (by omega) g4 (by omega) (by omega)
  have b2 := mul_bd (X := y.toInt) (Y := y1.toInt) (a := 186591 * 9 ^ s.toInt.toNat) (b := 9) (by omega) g3 (by omega) (by omega)
  have b3 := mul_bd (X := y.toInt - 1) (Y := y1.toInt) (a := 186591 * 59049) (b := 9) (by omega) (by omega) (by omega) (by omega)
  rw [Int.sub_mul, Int.one_mul] at b3
  have e : y'.toInt = y.toInt * y1.toInt := by rw [hy, mul_l (by omega) (by omega)]
  refine ⟨?_, by rw [e]; omega, ?_⟩
  · rw [e, e1, g1, hy1, hw]
    show _ = b * (PP off bk s.toInt.toNat * wdI off bk (s.toInt.toNat : Int))
    rw [show ((s.toInt.toNat : Nat) : Int) = s.toInt by omega, Int.mul_assoc]
  · rw [e, e1, Int.pow_succ, ← Int.mul_assoc]; exact b2.2
theorem gI_fr {rb : Nat} {lo hi : Int} {g f : Nat → Int32} (h : TF rb lo hi g f) {k : Int} (h0 : 0 ≤ k) (hk : k / 6 ≠ (rb : Int)) : gI f k = gI g k := by
  unfold gI; rw [h.2 k.toNat (by omega)]
theorem qd_fr {off off' : Nat → Int32} {bk st n : Int} (hs : st ≤ 6) (he : ∀ j : Int, 0 ≤ j → j < 6 → gI off' (6 * bk + j) = gI off (6 * bk + j)) : ∀ i : Nat, (i : Int) ≤ st → qd off' bk st n i = qd off bk st n i := by
  intro i
  induction i with
  | zero => intro _; rfl
  | succ i ih =>
    intro hi
    show qd off' bk st n i / wdI off' bk (st - 1 - (i : Int)) = qd off bk st n i / wdI off bk (st - 1 - (i : Int))
    rw [ih (by omega)]
    unfold wdI
    rw [he _ (by omega) (by omega)]
theorem OKn_fr {bk : Int} {says town off isM mL mH says' town' off' isM' mL' mH' : Nat → Int32} {st pl0 ph0 pl1 ph1 : Int32} {n : Int} (hs0 : 0 ≤ st.toInt) (hs : st.toInt ≤ 6)
    (e1 : ∀ j : Int, 0 ≤ j → j < 6 → gI says' (6 * bk + j) = gI says (6 * bk + j)) (e2 : ∀ j : Int, 0 ≤ j → j < 6 → gI town' (6 * bk + j) = gI town (6 * bk + j)) (e3 : ∀ j : Int, 0 ≤ j → j < 6 → gI off' (6 * bk + j) = gI off (6 * bk + j)) (e4 : ∀ j : Int, 0 ≤ j → j < 6 → gI isM' (6 * bk + j) = gI isM (6 * bk + j)) (e5 : ∀ j : Int, 0 ≤ j → j < 6 → gI mL' (6 * bk + j) = gI mL (6 * bk + j)) (e6 : ∀ j : Int, 0 ≤ j → j < 6 → gI mH' (6 * bk + j) = gI mH (6 * bk + j))
    (h : OKn bk says town off isM mL mH st pl0 ph0 pl1 ph1 n) : OKn bk says' town' off' isM' mL' mH' st pl0 ph0 pl1 ph1 n := by
  intro j h1 h2
  have hq := qd_fr (n := n) (bk := bk) hs e3
  have := h j h1 h2
  unfold okW wtI sdI dig p0I p1I wdI at this ⊢
  rw [e1 j h1 (by omega), e2 j h1 (by omega), e3 j h1 (by omega), e4 j h1 (by omega), e5 j h1 (by omega), e6 j h1 (by omega), hq st.toInt.toNat (by omega), hq (st.toInt - 1 - j).toNat (by omega)]
  exact this
theorem GI.fr {bk rb : Nat} {says town off isM mL mH says' town' off' isM' mL' mH' ft : Nat → Int32} {st pl0 ph0 pl1 ph1 kn kn' sp fm : Int32} {l1 r1 l2 r2 l3 r3 l5 r5 l6 r6 : Int} (hb : bk ≠ rb) (hs0 : 0 ≤ st.toInt) (hs : st.toInt ≤ 6) (e1 : TF rb l1 r1 says says') (e2 : TF rb l2 r2 town town') (e3 : TF rb l3 r3 off off') (e4 : TF rb 0 1 isM isM') (e5 : TF rb l5 r5 mL mL') (e6 : TF rb l6 r6 mH mH')
    (h : GI (bk : Int) says town off isM mL mH st pl0 ph0 pl1 ph1 kn sp fm ft) (hk : kn'.toInt ≠ 0 → kn.toInt ≠ 0) : GI (bk : Int) says' town' off' isM' mL' mH' st pl0 ph0 pl1 ph1 kn' sp fm ft := by
  intro g1 g2 i g3 g4
  have hh := h (hk g1) g2 i g3 g4
  refine OKn_fr hs0 hs ?_ ?_ ?_ ?_ ?_ ?_ hh
  · intro j a b; exact gI_fr e1 (by omega) (by omega)
  · intro j a b; exact gI_fr e2 (by omega) (by omega)
  · intro j a b; exact gI_fr e3 (by omega) (by omega)
  · intro j a b; exact gI_fr e4 (by omega) (by omega)
  · intro j a b; exact gI_fr e5 (by omega) (by omega)
  · intro j a b; exact gI_fr e6 (by omega) (by omega)

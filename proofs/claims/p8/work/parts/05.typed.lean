
/-! typed rows: numbers with the facts that are known of them -/
def TA (lo hi : Int) (f : Nat → Int32) : Prop := ∀ j, lo ≤ (f j).toInt ∧ (f j).toInt ≤ hi
theorem TA.up {lo hi : Int} {f : Nat → Int32} {k : Nat} {x : Int32} (h : TA lo hi f) (h1 : lo ≤ x.toInt) (h2 : x.toInt ≤ hi) : TA lo hi (upd f k x) := by
  intro j
  by_cases hj : j = k
  · subst hj; rw [pk_us]; exact ⟨h1, h2⟩
  · rw [pk_un hj]; exact h j
theorem TA.zero {lo hi : Int} (h1 : lo ≤ 0) (h2 : 0 ≤ hi) : TA lo hi (fun _ => 0) := fun _ => ⟨h1, h2⟩
theorem TA.mono {lo hi lo' hi' : Int} {f : Nat → Int32} (h : TA lo hi f) (h1 : lo' ≤ lo) (h2 : hi ≤ hi') : TA lo' hi' f := fun j => ⟨Int.le_trans h1 (h j).1, Int.le_trans (h j).2 h2⟩
def ex2 (a b : Int32) : Nat → Int32 := fun j => if j = 0 then a else if j = 1 then b else 0
def ex4 (a b c d : Int32) : Nat → Int32 := fun j => if j = 0 then a else if j = 1 then b else if j = 2 then c else if j = 3 then d else 0
def TB (n : Nat) (lo hi : Int) (f : Nat → Int32) : Prop := ∀ j, j < n → lo ≤ (f j).toInt ∧ (f j).toInt ≤ hi
theorem ta_ex2 {lo hi : Int} {a b : Int32} (h : lo ≤ a.toInt ∧ a.toInt ≤ hi ∧ lo ≤ b.toInt ∧ b.toInt ≤ hi) : TB 2 lo hi (ex2 a b) := by
  intro j hj
  rcases (show j = 0 ∨ j = 1 by omega) with rfl | rfl
  · exact ⟨h.1, h.2.1⟩
  · exact ⟨h.2.2.1, h.2.2.2⟩
theorem ta_ex4 {lo hi : Int} {a b c d : Int32} (h : lo ≤ a.toInt ∧ a.toInt ≤ hi ∧ lo ≤ b.toInt ∧ b.toInt ≤ hi ∧ lo ≤ c.toInt ∧ c.toInt ≤ hi ∧ lo ≤ d.toInt ∧ d.toInt ≤ hi) : TB 4 lo hi (ex4 a b c d) := by
  intro j hj
  rcases (show j = 0 ∨ j = 1 ∨ j = 2 ∨ j = 3 by omega) with rfl | rfl | rfl | rfl
  · exact ⟨h.1, h.2.1⟩
  · exact ⟨h.2.2.1, h.2.2.2.1⟩
  · exact ⟨h.2.2.2.2.1, h.2.2.2.2.2.1⟩
  · exact ⟨h.2.2.2.2.2.2.1, h.2.2.2.2.2.2.2⟩
theorem ex2_z : (fun _ => 0 : Nat → Int32) = ex2 0 0 := by funext j; simp [ex2]
theorem ex4_z : (fun _ => 0 : Nat → Int32) = ex4 0 0 0 0 := by funext j; simp [ex4]
theorem ex2_u0 {a b x : Int32} : upd (ex2 a b) 0 x = ex2 x b := by
  funext j; by_cases h : j = 0
  · subst h; rw [pk_us]; rfl
  · rw [pk_un h]; simp [ex2, h]
theorem ex2_u1 {a b x : Int32} : upd (ex2 a b) 1 x = ex2 a x := by
  funext j; by_cases h : j = 1
  · subst h; rw [pk_us]; rfl
  · rw [pk_un h]; simp [ex2, h]
theorem ex4_u0 {a b c d x : Int32} : upd (ex4 a b c d) 0 x = ex4 x b c d := by
  funext j; by_cases h : j = 0
  · subst h; rw [pk_us]; rfl
  · rw [pk_un h]; simp [ex4, h]
theorem ex4_u1 {a b c d x : Int32} : upd (ex4 a b c d) 1 x = ex4 a x c d := by
  funext j; by_cases h : j = 1
  · subst h; rw [pk_us]; rfl
  · rw [pk_un h]; simp [ex4, h]
theorem ex4_u2 {a b c d x : Int32} : upd (ex4 a b c d) 2 x = ex4 a b x d := by
  funext j; by_cases h : j = 2
  · subst h; rw [pk_us]; rfl
  · rw [pk_un h]; simp [ex4, h]
theorem ex4_u3 {a b c d x : Int32} : upd (ex4 a b c d) 3 x = ex4 a b c x := by
  funext j; by_cases h : j = 3
  · subst h; rw [pk_us]; rfl
  · rw [pk_un h]; simp [ex4, h]
theorem i_lo (x : Int32) : -2147483648 ≤ x.toInt := Int32.le_toInt x
theorem i_hi (x : Int32) : x.toInt ≤ 2147483647 := by have := Int32.toInt_lt x; omega
theorem TA.all (f : Nat → Int32) : TA (-2147483648) 2147483647 f := fun j => ⟨i_lo _, i_hi _⟩
theorem bm {X : Int} (h1 : -2147483648 ≤ X) (h2 : X ≤ 2147483647) : X.bmod (2 ^ 32) = X := by
  rw [Int.bmod_def]; omega
theorem add_i {x y : Int32} (h1 : -2147483648 ≤ x.toInt + y.toInt) (h2 : x.toInt + y.toInt ≤ 2147483647) : (x + y).toInt = x.toInt + y.toInt := by
  rw [Int32.toInt_add]; exact bm h1 h2
theorem sub_i {x y : Int32} (h1 : -2147483648 ≤ x.toInt - y.toInt) (h2 : x.toInt - y.toInt ≤ 2147483647) : (x - y).toInt = x.toInt - y.toInt := by
  rw [Int32.toInt_sub]; exact bm h1 h2
theorem mul_i {x y : Int32} (h1 : -2147483648 ≤ x.toInt * y.toInt) (h2 : x.toInt * y.toInt ≤ 2147483647) : (x * y).toInt = x.toInt * y.toInt := by
  rw [Int32.toInt_mul]; exact bm h1 h2
theorem neg_i {x : Int32} (h1 : -2147483648 < x.toInt) : (-x).toInt = -x.toInt := by
  rw [Int32.toInt_neg]; have := i_hi x; exact bm (by omega) (by omega)
theorem mul_bd {X Y a b : Int} (h1 : 0 ≤ X) (h2 : X ≤ a) (h3 : 0 ≤ Y) (h4 : Y ≤ b) : 0 ≤ X * Y ∧ X * Y ≤ a * b := ⟨Int.mul_nonneg h1 h3, Int.mul_le_mul h2 h4 h3 (Int.le_trans h1 h2)⟩
theorem nn_of {x : Int32} (h : 0 ≤ x.toInt) : ∃ k : Nat, k < 2 ^ 31 ∧ x = nI k ∧ x.toInt = k := by
  obtain ⟨k, h1, h2⟩ := nI_of (x := x) (fun q => by have := (fa_lt _ _).mp q; have e : (0 : Int32).toInt = 0 := rfl; omega)
  exact ⟨k, h1, h2, by rw [h2]; exact nI_toInt h1⟩
theorem and_b {x y : Int32} (h : 0 ≤ y.toInt) : 0 ≤ (x &&& y).toInt ∧ (x &&& y).toInt ≤ y.toInt := by
  obtain ⟨k, h1, h2, h3⟩ := nn_of h
  have e : x &&& y = nI (x.toBitVec.toNat &&& k) := by
    rw [h2]
    apply Int32.toBitVec_inj.mp
    rw [Int32.toBitVec_and]
    apply BitVec.eq_of_toNat_eq
    rw [BitVec.toNat_and, pk_tn (by omega : k < 2 ^ 32), pk_tn (Nat.lt_of_le_of_lt Nat.and_le_right (by omega))]
  have hl : x.toBitVec.toNat &&& k ≤ k := Nat.and_le_right
  rw [e, nI_toInt (by omega), h3]
  omega
theorem or_b {x y : Int32} {k : Nat} (hk : k ≤ 31) (hx : 0 ≤ x.toInt) (hx2 : x.toInt < 2 ^ k) (hy : 0 ≤ y.toInt) (hy2 : y.toInt < 2 ^ k) : 0 ≤ (x ||| y).toInt ∧ (x ||| y).toInt < 2 ^ k := by
  obtain ⟨a, h1, h2, h3⟩ := nn_of hx
  obtain ⟨b, g1, g2, g3⟩ := nn_of hy
  have ha : a < 2 ^ k := by have := hx2; rw [h3] at this; exact_mod_cast this
  have hb : b < 2 ^ k := by have := hy2; rw [g3] at this; exact_mod_cast this
  have hab : a ||| b < 2 ^ k := Nat.or_lt_two_pow ha hb
  have hp : 2 ^ k ≤ 2 ^ 31 := Nat.pow_le_pow_right (by omega) hk
  have e : x ||| y = nI (a ||| b) := by
    rw [h2, g2]
    apply Int32.toBitVec_inj.mp
    rw [Int32.toBitVec_or]
    apply BitVec.eq_of_toNat_eq
    rw [BitVec.toNat_or, pk_tn (by omega), pk_tn (by omega), pk_tn (by omega)]
  rw [e, nI_toInt (by omega)]
  exact ⟨by omega, by exact_mod_cast hab⟩
theorem shl1_b {y : Int32} {k : Nat} (hk : k ≤ 30) (h1 : 0 ≤ y.toInt) (h2 : y.toInt ≤ k) : 1 ≤ ((1 : Int32) <<< (y &&& 31)).toInt ∧ ((1 : Int32) <<< (y &&& 31)).toInt ≤ 2 ^ k := by
  obtain ⟨a, q1, q2, q3⟩ := nn_of h1
  have ha : a ≤ k := by omega
  have hs : ((y &&& 31).toBitVec.smod 32).toNat = a := by
    rw [q2]
    have : ∀ a : Nat, a < 31 → ((nI a &&& 31).toBitVec.smod 32).toNat = a := by decide +kernel
    exact this a (by omega)
  have hp : 2 ^ a ≤ 2 ^ k := Nat.pow_le_pow_right (by omega) ha
  have hp2 : 2 ^ k ≤ 2 ^ 30 := Nat.pow_le_pow_right (by omega) hk
  have e : (1 : Int32) <<< (y &&& 31) = nI (2 ^ a) := by
    have := pk_shlN (n := 1) (y &&& 31) a hs (by omega)
    rw [Nat.one_mul] at this
    exact this
  have hp0 : 1 ≤ 2 ^ a := Nat.one_le_two_pow
  rw [e, nI_toInt (by omega)]
  exact ⟨by omega, by exact_mod_cast hp⟩
theorem shr_b {x y : Int32} (h : 0 ≤ x.toInt) : 0 ≤ (x >>> (y &&& 31)).toInt ∧ (x >>> (y &&& 31)).toInt ≤ x.toInt := by
  rw [pk_shr x (y &&& 31) _ rfl]
  rw [Int.shiftRight_eq_div_pow]
  generalize ((y &&& 31).toBitVec.smod 32).toNat = d
  have hd : (0 : Int) < ((2 ^ d : Nat) : Int) := by exact_mod_cast Nat.two_pow_pos d
  exact ⟨Int.ediv_nonneg h (Int.le_of_lt hd), Int.ediv_le_self _ h⟩
theorem div_b {x y : Int32} (hx : 0 ≤ x.toInt) (hy : 0 < y.toInt) : (x / y).toInt = x.toInt / y.toInt := by
  rw [Int32.toInt_div, Int.tdiv_eq_ediv_of_nonneg hx]
  have h1 := Int.ediv_nonneg hx (Int.le_of_lt hy)
  have h2 := Int.ediv_le_self y.toInt hx
  have := i_hi x
  exact bm (by omega) (by omega)
theorem rem_b {x y : Int32} (hx : 0 ≤ x.toInt) (hy : 0 < y.toInt) : (x - x / y * y).toInt = x.toInt % y.toInt := by
  rw [rem_toInt, Int.tmod_eq_emod_of_nonneg hx]
theorem ne0_of {y : Int32} (h : y.toInt ≠ 0) : ¬ y = 0 := fun e => h (by rw [e]; rfl)
theorem i2b_b (x : Int32) : -128 ≤ x.toInt8.toInt32.toInt ∧ x.toInt8.toInt32.toInt ≤ 127 := by
  have h1 := Int8.le_toInt x.toInt8
  have h2 := Int8.toInt_lt x.toInt8
  rw [Int8.toInt_toInt32]
  omega
theorem cl_of0 {x : Int32} (h : 0 ≤ x.toInt) : x.toInt = ((x.toNatClampNeg : Nat) : Int) := by
  rw [Int32.toNatClampNeg]; omega
theorem max_b (x y : Int32) : x.toInt ≤ (if x < y then y else x).toInt ∧ y.toInt ≤ (if x < y then y else x).toInt ∧ ((if x < y then y else x).toInt = x.toInt ∨ (if x < y then y else x).toInt = y.toInt) := by
  by_cases h : x < y
  · rw [if_pos h]; have := (fa_lt _ _).mp h; omega
  · rw [if_neg h]; have := fa_nlt h; omega
theorem min_b (x y : Int32) : (if y < x then y else x).toInt ≤ x.toInt ∧ (if y < x then y else x).toInt ≤ y.toInt ∧ ((if y < x then y else x).toInt = x.toInt ∨ (if y < x then y else x).toInt = y.toInt) := by
  by_cases h : y < x
  · rw [if_pos h]; have := (fa_lt _ _).mp h; omega
  · rw [if_neg h]; have := fa_nlt h; omega
section TK
variable {p : Program} {l : Launch} {e : Env} {R : Room} {s : State} {m : MethodId} {args : Array Value} {below : List Frame} {meth : Method} {c : Code} {H : Heap} {locs : List Loc} {cells slots : Nat} {Q : State → Prop} {cc : ByteArray} {nL index pc : Nat} {own : String} {G : va_G} {tys : List (ClassId × FieldType)} {A : Nat → Prop} {ws : va_W} {ls : Array Slot} {rest : List Value} {a : Nat}
theorem t_i {x : Int32} (P : Int32 → Prop) (h : P x) (kk : ∀ z : Int32, P z → W p l e R s m args below meth c H locs cells slots Q (F0 m pc ls (.int z :: rest))) : W p l e R s m args below meth c H locs cells slots Q (F0 m pc ls (.int x :: rest)) := kk x h
theorem t_l {x : Int64} (kk : ∀ z : Int64, W p l e R s m args below meth c H locs cells slots Q (F0 m pc ls (.long z :: rest))) : W p l e R s m args below meth c H locs cells slots Q (F0 m pc ls (.long x :: rest)) := kk x
theorem t_iald (hC : CallFix p m c cc nL s args gw own) {cA cJ cB cZ : ClassId} (hK : va_K G cl (TY cA cJ cB cZ) s) (hP : va_P G cl ws H) (q0 : Nat) {n : Nat} {f : Nat → Int32} {i : Int32} (ha : ws[q0]? = some (a, .inl (cA, n, .inl f))) (h0 : 0 ≤ i.toInt) (h1 : i.toInt < (n : Int)) {lo hi : Int} (hT : TA lo hi f) (hdg : decode cc pc = .ok (.iaload, 1))
    (kk : ∀ x : Int32, lo ≤ x.toInt ∧ x.toInt ≤ hi → W p l e R s m args below meth c H locs cells slots Q (F0 m (pc + 1) ls (.int x :: rest))) : W p l e R s m args below meth c H locs cells slots Q (F0 m pc ls (.int i :: .ref a :: rest)) :=
  va_iald hC.1 hC.2.1 hK hP q0 0 ha rfl (vp_in_iff.mpr ⟨h0, h1⟩) hdg (kk _ (hT _))
theorem t_iaxd (hC : CallFix p m c cc nL s args gw own) {cA cJ cB cZ : ClassId} (hK : va_K G cl (TY cA cJ cB cZ) s) (hP : va_P G cl ws H) (q0 : Nat) {n : Nat} {f : Nat → Int32} {i : Int32} (ha : ws[q0]? = some (a, .inl (cA, n, .inl f))) (h0 : 0 ≤ i.toInt) (h1 : i.toInt < (n : Int)) {lo hi : Int} (hT : TB n lo hi f) (hdg : decode cc pc = .ok (.iaload, 1))
    (kk : ∀ x : Int32, lo ≤ x.toInt ∧ x.toInt ≤ hi → W p l e R s m args below meth c H locs cells slots Q (F0 m (pc + 1) ls (.int x :: rest))) : W p l e R s m args below meth c H locs cells slots Q (F0 m pc ls (.int i :: .ref a :: rest)) :=
  va_iald hC.1 hC.2.1 hK hP q0 0 ha rfl (vp_in_iff.mpr ⟨h0, h1⟩) hdg (kk _ (hT _ (by have := cl_of0 h0; omega)))
theorem t_bald (hC : CallFix p m c cc nL s args gw own) {cI cJ cA cZ : ClassId} (hK : va_K G cl (TY cI cJ cA cZ) s) (hP : va_P G cl ws H) (q0 : Nat) {n : Nat} {f : Nat → Int32} {i : Int32} (ha : ws[q0]? = some (a, .inl (cA, n, .inl f))) (h0 : 0 ≤ i.toInt) (h1 : i.toInt < (n : Int)) {lo hi : Int} (hT : TA lo hi f) (hdg : decode cc pc = .ok (.baload, 1))
    (kk : ∀ x : Int32, lo ≤ x.toInt ∧ x.toInt ≤ hi → W p l e R s m args below meth c H locs cells slots Q (F0 m (pc + 1) ls (.int x :: rest))) : W p l e R s m args below meth c H locs cells slots Q (F0 m pc ls (.int i :: .ref a :: rest)) :=
  va_bald hC.1 hC.2.1 hK hP q0 2 ha rfl (vp_in_iff.mpr ⟨h0, h1⟩) hdg (kk _ (hT _))
theorem t_zald (hC : CallFix p m c cc nL s args gw own) {cI cJ cB cA : ClassId} (hK : va_K G cl (TY cI cJ cB cA) s) (hP : va_P G cl ws H) (q0 : Nat) {n : Nat} {f : Nat → Int32} {i : Int32} (ha : ws[q0]? = some (a, .inl (cA, n, .inl f))) (h0 : 0 ≤ i.toInt) (h1 : i.toInt < (n : Int)) {lo hi : Int} (hT : TA lo hi f) (hdg : decode cc pc = .ok (.baload, 1))
    (kk : ∀ x : Int32, lo ≤ x.toInt ∧ x.toInt ≤ hi → W p l e R s m args below meth c H locs cells slots Q (F0 m (pc + 1) ls (.int x :: rest))) : W p l e R s m args below meth c H locs cells slots Q (F0 m pc ls (.int i :: .ref a :: rest)) :=
  va_zald hC.1 hC.2.1 hK hP q0 3 ha rfl (vp_in_iff.mpr ⟨h0, h1⟩) hdg (kk _ (hT _))
theorem t_lald (hC : CallFix p m c cc nL s args gw own) {cI cA cB cZ : ClassId} (hK : va_K G cl (TY cI cA cB cZ) s) (hP : va_P G cl ws H) (q0 : Nat) {n : Nat} {f : Nat → Int64} {i : Int32} (ha : ws[q0]? = some (a, .inl (cA, n, .inr (.inl f)))) (h0 : 0 ≤ i.toInt) (h1 : i.toInt < (n : Int)) (hdg : decode cc pc = .ok (.laload, 1))
    (kk : ∀ x : Int64, W p l e R s m args below meth c H locs cells slots Q (F0 m (pc + 1) ls (.long x :: rest))) : W p l e R s m args below meth c H locs cells slots Q (F0 m pc ls (.int i :: .ref a :: rest)) :=
  va_lald hC.1 hC.2.1 hK hP q0 1 ha rfl (vp_in_iff.mpr ⟨h0, h1⟩) hdg (kk _)
theorem t_iast (hC : CallFix p m c cc nL s args gw own) {cA cJ cB cZ : ClassId} (hK : va_K G cl (TY cA cJ cB cZ) s) (hP : va_P G cl ws H) (hD : va_D A ws) (hS : va_S A s.heap H locs) (q0 : Nat) {n : Nat} {f : Nat → Int32} {i x : Int32} (ha : ws[q0]? = some (a, .inl (cA, n, .inl f))) (h0 : 0 ≤ i.toInt) (h1 : i.toInt < (n : Int)) {lo hi : Int} (hT : TA lo hi f) (hx : lo ≤ x.toInt ∧ x.toInt ≤ hi) (hdg : decode cc pc = .ok (.iastore, 1))
    (kk : ∀ (f' : Nat → Int32) (H1 : Heap) (locs1 : List Loc), TA lo hi f' → va_P G cl (ws.set q0 (a, .inl (cA, n, .inl f'))) H1 → va_D A (ws.set q0 (a, .inl (cA, n, .inl f'))) → va_S A s.heap H1 locs1 → W p l e R s m args below meth c H1 locs1 cells slots Q (F0 m (pc + 1) ls rest)) : W p l e R s m args below meth c H locs cells slots Q (F0 m pc ls (.int x :: .int i :: .ref a :: rest)) :=
  va_iast hC.1 hC.2.1 hK hP hD hS q0 0 ha rfl (vp_in_iff.mpr ⟨h0, h1⟩) hdg (fun H1 locs1 => kk _ H1 locs1 (hT.up hx.1 hx.2))
theorem t_last (hC : CallFix p m c cc nL s args gw own) {cI cA cB cZ : ClassId} (hK : va_K G cl (TY cI cA cB cZ) s) (hP : va_P G cl ws H) (hD : va_D A ws) (hS : va_S A s.heap H locs) (q0 : Nat) {n : Nat} {f : Nat → Int64} {i : Int32} {x : Int64} (ha : ws[q0]? = some (a, .inl (cA, n, .inr (.inl f)))) (h0 : 0 ≤ i.toInt) (h1 : i.toInt < (n : Int)) (hdg : decode cc pc = .ok (.lastore, 1))
    (kk : ∀ (f' : Nat → Int64) (H1 : Heap) (locs1 : List Loc), va_P G cl (ws.set q0 (a, .inl (cA, n, .inr (.inl f')))) H1 → va_D A (ws.set q0 (a, .inl (cA, n, .inr (.inl f')))) → va_S A s.heap H1 locs1 → W p l e R s m args below meth c H1 locs1 cells slots Q (F0 m (pc + 1) ls rest)) : W p l e R s m args below meth c H locs cells slots Q (F0 m pc ls (.long x :: .int i :: .ref a :: rest)) :=
  va_last hC.1 hC.2.1 hK hP hD hS q0 1 ha rfl (vp_in_iff.mpr ⟨h0, h1⟩) hdg (fun H1 locs1 => kk _ H1 locs1)
theorem nar_b (x : Int32) : -128 ≤ (vp_nar .byte x).toInt ∧ (vp_nar .byte x).toInt ≤ 127 := by rw [vp_nar_byte]; exact i2b_b x
theorem nar_z (x : Int32) : 0 ≤ (vp_nar .boolean x).toInt ∧ (vp_nar .boolean x).toInt ≤ 1 := by
  have h : vp_nar .boolean x = x &&& 1 := rfl
  rw [h]
  have := and_b (x := x) (y := 1) (by decide)
  exact this
theorem t_bast (hC : CallFix p m c cc nL s args gw own) {cI cJ cA cZ : ClassId} (hK : va_K G cl (TY cI cJ cA cZ) s) (hP : va_P G cl ws H) (hD : va_D A ws) (hS : va_S A s.heap H locs) (q0 : Nat) {n : Nat} {f : Nat → Int32} {i x : Int32} (ha : ws[q0]? = some (a, .inl (cA, n, .inl f))) (h0 : 0 ≤ i.toInt) (h1 : i.toInt < (n : Int)) (hT : TA (-128) 127 f) (hdg : decode cc pc = .ok (.bastore, 1))
    (kk : ∀ (f' : Nat → Int32) (H1 : Heap) (locs1 : List Loc), TA (-128) 127 f' → va_P G cl (ws.set q0 (a, .inl (cA, n, .inl f'))) H1 → va_D A (ws.set q0 (a, .inl (cA, n, .inl f'))) → va_S A s.heap H1 locs1 → W p l e R s m args below meth c H1 locs1 cells slots Q (F0 m (pc + 1) ls rest)) : W p l e R s m args below meth c H locs cells slots Q (F0 m pc ls (.int x :: .int i :: .ref a :: rest)) :=
  va_bast hC.1 hC.2.1 hK hP hD hS q0 2 ha rfl (vp_in_iff.mpr ⟨h0, h1⟩) hdg (fun H1 locs1 => kk _ H1 locs1 (hT.up (nar_b x).1 (nar_b x).2))
theorem t_zast (hC : CallFix p m c cc nL s args gw own) {cI cJ cB cA : ClassId} (hK : va_K G cl (TY cI cJ cB cA) s) (hP : va_P G cl ws H) (hD : va_D A ws) (hS : va_S A s.heap H locs) (q0 : Nat) {n : Nat} {f : Nat → Int32} {i x : Int32} (ha : ws[q0]? = some (a, .inl (cA, n, .inl f))) (h0 : 0 ≤ i.toInt) (h1 : i.toInt < (n : Int)) (hT : TA 0 1 f) (hdg : decode cc pc = .ok (.bastore, 1))
    (kk : ∀ (f' : Nat → Int32) (H1 : Heap) (locs1 : List Loc), TA 0 1 f' → va_P G cl (ws.set q0 (a, .inl (cA, n, .inl f'))) H1 → va_D A (ws.set q0 (a, .inl (cA, n, .inl f'))) → va_S A s.heap H1 locs1 → W p l e R s m args below meth c H1 locs1 cells slots Q (F0 m (pc + 1) ls rest)) : W p l e R s m args below meth c H locs cells slots Q (F0 m pc ls (.int x :: .int i :: .ref a :: rest)) :=
  va_zast hC.1 hC.2.1 hK hP hD hS q0 3 ha rfl (vp_in_iff.mpr ⟨h0, h1⟩) hdg (fun H1 locs1 => kk _ H1 locs1 (hT.up (nar_z x).1 (nar_z x).2))
theorem t_slen (hC : CallFix p m c cc nL s args gw own) {t : Nat} {f : Nat → Value} (hT : va_T .long t 19 f A s s.heap) (hS : va_S A s.heap H locs) (hdg : decode cc pc = .ok (.arraylength, 1))
    (kk : W p l e R s m args below meth c H locs cells slots Q (F0 m (pc + 1) ls (.int 19 :: rest))) : W p l e R s m args below meth c H locs cells slots Q (F0 m pc ls (.ref t :: rest)) := by
  obtain ⟨cell, h1, h2, h3, h4, h5, h6, h7⟩ := hT
  have hk : H[t]? = some cell := by rw [hS.2.1 t (Array.getElem?_eq_some_iff.mp h1).1 h7]; exact h1
  exact W.alen (n := 19) hC.1 hC.2.1 hk h2 h5 rfl rfl hdg kk
theorem t_sld (hC : CallFix p m c cc nL s args gw own) {t : Nat} {f : Nat → Value} (hT : va_T .long t 19 f A s s.heap) (hf : ∀ j, j < 19 → ∃ y : Int64, f j = .long y) (hS : va_S A s.heap H locs) {i : Int32} (h0 : 0 ≤ i.toInt) (h1' : i.toInt < 19) (hdg : decode cc pc = .ok (.laload, 1))
    (kk : ∀ x : Int64, W p l e R s m args below meth c H locs cells slots Q (F0 m (pc + 1) ls (.long x :: rest))) : W p l e R s m args below meth c H locs cells slots Q (F0 m pc ls (.int i :: .ref t :: rest)) := by
  obtain ⟨cell, h1, h2, h3, h4, h5, h6, h7⟩ := hT
  have hk : H[t]? = some cell := by rw [hS.2.1 t (Array.getElem?_eq_some_iff.mp h1).1 h7]; exact h1
  have hc := cl_of0 h0
  have hlt : i.toNatClampNeg < 19 := by omega
  obtain ⟨y, hy⟩ := hf _ hlt
  exact W.lald (v := .long y) hC.1 hC.2.1 hk h2 h3 (by intro q; rcases q with q | q; · have := (fa_lt _ _).mp q; have e0 : (0 : Int32).toInt = 0 := rfl; omega
                                                       · omega) (by rw [h6 _ hlt, hy]) rfl rfl hdg (kk y)
theorem nar_bool {x : Int32} (h0 : 0 ≤ x.toInt) (h1 : x.toInt ≤ 1) : narrow .boolean (.int x) = .int x := by
  rcases (show x.toInt = 0 ∨ x.toInt = 1 by omega) with h | h
  · have e : x = 0 := (fa_eq _ _).mpr h
    subst e; rfl
  · have e : x = 1 := (fa_eq _ _).mpr h
    subst e; rfl
theorem fit_bool {x : Int32} (h0 : 0 ≤ x.toInt) (h1 : x.toInt ≤ 1) : fits .boolean (.int x) = true := by
  rcases (show x.toInt = 0 ∨ x.toInt = 1 by omega) with h | h
  · have e : x = 0 := (fa_eq _ _).mpr h
    subst e; rfl
  · have e : x = 1 := (fa_eq _ _).mpr h
    subst e; rfl
end TK

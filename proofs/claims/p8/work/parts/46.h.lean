
/-! the class's rows: how long they are, how many are put -/
theorem ofNat_i {n : Nat} (h : n ≤ 300000) : (Int32.ofNat n).toInt = (n : Int) := by
  exact nI_toInt (by omega)
theorem fl_step2 {g : Nat} (h : g < 11) : (fl (g + 1) = 2 * fl g ∧ 2 * fl g ≤ 300000) ∨ (fl (g + 1) = 300000 ∧ 300000 ≤ 2 * fl g) := by
  have : ∀ g, g < 11 → (fl (g + 1) = 2 * fl g ∧ 2 * fl g ≤ 300000) ∨ (fl (g + 1) = 300000 ∧ 300000 ≤ 2 * fl g) := by decide
  exact this g h
theorem g_lt {g : Nat} (h : g ≤ 11) (h2 : fl g ≤ 299999) : g < 11 := by
  rcases Nat.lt_or_ge g 11 with q | q
  · exact q
  · have e : g = 11 := by omega
    rw [e, fl_11] at h2; omega
def FLL (f : Nat → Int32) (n v : Int) : Prop := ∀ j : Int, 0 ≤ j → j < n → gI f j = v
theorem FLL.zero {f : Nat → Int32} {n v : Int} (h : n ≤ 0) : FLL f n v := fun j h1 h2 => by omega
theorem FLL.step {f f' : Nat → Int32} {n n' v : Int} (h : FLL f n v) (hf : ∀ j : Int, 0 ≤ j → gI f' j = if j = n then v else gI f j) (hn : n' = n + 1) : FLL f' n' v := by
  intro j h1 h2
  rw [hf j h1]
  by_cases e : j = n
  · rw [if_pos e]
  · rw [if_neg e]; exact h j h1 (by omega)
theorem PB.of {pl ph : Nat → Int32} {v : Int} (h1 : FLL pl 2 v) (h2 : FLL ph 2 v) : PB pl ph := fun j a b => by
  rw [h1 j a b, h2 j a b]; omega
theorem PB.up {pl ph pl' ph' : Nat → Int32} {t x y : Int} (h : PB pl ph) (h1 : ∀ j : Int, 0 ≤ j → gI pl' j = if j = t then x else gI pl j) (h2 : ∀ j : Int, 0 ≤ j → gI ph' j = if j = t then y else gI ph j) (h3 : x ≤ y) (h4 : y ≤ x + 4) : PB pl' ph' := by
  intro j a b
  rw [h1 j a, h2 j a]
  by_cases e : j = t
  · rw [if_pos e, if_pos e]; omega
  · rw [if_neg e, if_neg e]; exact h j a b
theorem SPn.step {off least most least' most' : Nat → Int32} {s s' x y X : Int} (h : SPn off least most s) (h1 : ∀ j : Int, 0 ≤ j → gI least' j = if j = s then x else gI least j) (h2 : ∀ j : Int, 0 ≤ j → gI most' j = if j = s then y else gI most j) (h3 : X - gI off s ≤ x) (h4 : y ≤ X + gI off s) (hs : s' = s + 1) : SPn off least' most' s' := by
  intro j a b
  rw [h1 j a, h2 j a]
  by_cases e : j = s
  · rw [if_pos e, if_pos e, e]; omega
  · rw [if_neg e, if_neg e]; exact h j a (by omega)
def WY (off : Nat → Int32) (st B : Int) (s p : Int32) : Prop := p.toInt * KKf off st (6 - s.toInt).toNat = B * KKf off st 6 ∧ 1 ≤ p.toInt ∧ p.toInt ≤ 175 * 9 ^ s.toInt.toNat
theorem mul_1 {X Y a b : Int} (h1 : 1 ≤ X) (h2 : X ≤ a) (h3 : 1 ≤ Y) (h4 : Y ≤ b) : 1 ≤ X * Y ∧ X * Y ≤ a * b := by
  have b1 := mul_bd (X := X) (Y := Y) (a := a) (b := b) (by omega) h2 (by omega) h4
  have b3 := mul_bd (X := X - 1) (Y := Y) (a := a) (b := b) (by omega) (by omega) (by omega) h4
  rw [Int.sub_mul, Int.one_mul] at b3
  omega
theorem WY.start {off : Nat → Int32} {st B0 B1 B2 : Int} {s p p1 a0 a1 a2 : Int32} (h0 : a0.toInt = B0) (h1 : a1.toInt = B1) (h2 : a2.toInt = B2) (g0 : 1 ≤ B0 ∧ B0 ≤ 7) (g1 : 1 ≤ B1 ∧ B1 ≤ 5) (g2 : 1 ≤ B2 ∧ B2 ≤ 5) (hp : p1.toInt = a0.toInt * a1.toInt) (hq : p.toInt = p1.toInt * a2.toInt) (hs : s.toInt = 0) : WY off st (B0 * B1 * B2) s p := by
  have e : p.toInt = B0 * B1 * B2 := by rw [hq, hp, h0, h1, h2]
  have q1 := mul_1 g0.1 g0.2 g1.1 g1.2
  have q2 := mul_1 q1.1 q1.2 g2.1 g2.2
  refine ⟨?_, by omega, ?_⟩
  · rw [hs, e]; rfl
  · rw [hs, e]; show _ ≤ (175 : Int) * 1; omega
theorem WY.bd {off : Nat → Int32} {st B : Int} {s p : Int32} (h : WY off st B s p) (h0 : 0 ≤ s.toInt) (h1 : s.toInt ≤ 5) : 1 ≤ p.toInt ∧ p.toInt ≤ 10333575 := by
  have h9 : (175 : Int) * 9 ^ s.toInt.toNat ≤ 10333575 := by
    have : ∀ k : Nat, k ≤ 5 → (175 : Int) * 9 ^ k ≤ 10333575 := by decide
    exact this _ (by omega)
  exact ⟨h.2.1, Int.le_trans h.2.2 h9⟩
theorem WY.step {off : Nat → Int32} (hT : TA 0 4 off) {st B : Int} {s s' p p' w : Int32} (h : WY off st B s p) (h0 : 0 ≤ s.toInt) (h1 : s.toInt < st) (h5 : s.toInt ≤ 5) (hw : w.toInt = 2 * gI off s.toInt + 1) (hp : p'.toInt = p.toInt * w.toInt) (hs : s'.toInt = s.toInt + 1) : WY off st B s' p' := by
  have e1 : (6 - s.toInt).toNat = (6 - s'.toInt).toNat + 1 := by omega
  have e2 : s'.toInt.toNat = s.toInt.toNat + 1 := by omega
  obtain ⟨g1, g2, g3⟩ := h
  have hg := gI_r hT s.toInt
  have q := mul_1 (X := p.toInt) (Y := w.toInt) g2 g3 (by omega) (show w.toInt ≤ 9 by omega)
  refine ⟨?_, by rw [hp]; exact q.1, ?_⟩
  · rw [e1, KKf_in (s := s.toInt) _ (by omega) h1, ← Int.mul_assoc, ← hw, ← hp] at g1
    exact g1
  · rw [hp, e2, Int.pow_succ, ← Int.mul_assoc]; exact q.2
theorem WY.fin {off : Nat → Int32} {st B : Int} {s p : Int32} (h : WY off st B s p) (hs : s.toInt = st) (h6 : st ≤ 6) : p.toInt = B * KKf off st 6 := by
  have := h.1
  rw [hs, KKf_out _ (by omega), Int.mul_one] at this
  exact this

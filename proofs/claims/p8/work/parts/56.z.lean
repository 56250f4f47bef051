
def ltr (t b r t' : Int) : Prop := (0 ≤ b ∧ b ≤ 1000 ∧ t + b ≤ 100000 ∧ r = t + b ∧ t' = t + b) ∨ ((b < 0 ∨ 1000 < b ∨ 100000 < t + b) ∧ r = -1 ∧ t' = t)
theorem ltr.eq {t b r t' t1 b1 r1 t1' : Int} (h : ltr t b r t') (h1 : ltr t1 b1 r1 t1') (e : t = t1) (eb : b = b1) : r = r1 ∧ t' = t1' := by
  unfold ltr at h h1; omega


/-! growth: what a call makes may be less than its contract pays for -/
def nsl (b : Nat) (H : Heap) : Nat := ((H.toList.drop b).map (fun q => q.slots.size)).sum
def GR (H0 H : Heap) (dc ds : Nat) : Prop := H0.size ≤ H.size ∧ H.size ≤ H0.size + dc ∧ ∀ b, b ≤ H0.size → nsl b H ≤ nsl b H0 + ds
theorem nsl_split {H0 H : Heap} (hc : ∀ (a : Nat) (c : Cell), H0[a]? = some c → ∃ c' : Cell, H[a]? = some c' ∧ c'.slots.size = c.slots.size) {b : Nat} (hb : b ≤ H0.size) : nsl b H = nsl b H0 + nsl H0.size H := by
  unfold nsl
  have e1 : H.toList.drop b = (H.toList.drop b).take (H0.size - b) ++ H.toList.drop H0.size := by
    have h := (List.take_append_drop (H0.size - b) (H.toList.drop b)).symm
    rw [List.drop_drop] at h
    rw [show b + (H0.size - b) = H0.size by omega] at h
    exact h
  have e2 : ((H.toList.drop b).take (H0.size - b)).map (fun q => q.slots.size) = (H0.toList.drop b).map (fun q => q.slots.size) := by
    apply List.ext_getElem?
    intro i
    rw [List.getElem?_map, List.getElem?_map, List.getElem?_take, List.getElem?_drop]
    by_cases hi : i < H0.size - b
    · rw [if_pos hi, List.getElem?_drop, Array.getElem?_toList, Array.getElem?_toList]
      have hlt : b + i < H0.size := by omega
      have h0 : H0[b + i]? = some H0[b + i] := Array.getElem?_eq_getElem hlt
      obtain ⟨c', h1, h2⟩ := hc _ _ h0
      rw [h1, h0]
      simp [h2]
    · rw [if_neg hi, List.getElem?_drop, Array.getElem?_toList]
      have : H0[b + i]? = none := by rw [Array.getElem?_eq_none]; omega
      rw [this]
  rw [e1, List.map_append, List.sum_append, e2]
theorem nsl_0 (H : Heap) : nsl H.size H = 0 := by
  unfold nsl
  rw [List.drop_eq_nil_of_le (by rw [Array.length_toList]; exact Nat.le_refl _)]
  rfl
theorem GR.trans {H0 H1 H2 : Heap} {a b c d : Nat} (h : GR H0 H1 a b) (g : GR H1 H2 c d) : GR H0 H2 (a + c) (b + d) := by
  refine ⟨Nat.le_trans h.1 g.1, by have := h.2.1; have := g.2.1; omega, fun k hk => ?_⟩
  have h1 := h.2.2 k hk
  have h2 := g.2.2 k (Nat.le_trans hk h.1)
  omega
theorem GR.mono {H0 H1 : Heap} {a b c d : Nat} (h : GR H0 H1 a b) (h1 : a ≤ c) (h2 : b ≤ d) : GR H0 H1 c d := ⟨h.1, by have := h.2.1; omega, fun k hk => by have := h.2.2 k hk; omega⟩
section GRW
variable {p : Program} {l : Launch} {e : Env} {R : Room} {s : State} {m : MethodId} {args : Array Value} {below : List Frame} {meth : Method} {c : Code} {H : Heap} {locs : List Loc} {cells slots : Nat} {Q : State → Prop} {g : JFrame}
theorem gr_stand {T : State} (X : Stand p l e R s m args below meth c T locs cells slots) : GR s.heap T.heap cells slots := by
  obtain ⟨h1, h2, h3, h4, h5, h6⟩ := X.same
  have hc : ∀ (a : Nat) (c : Cell), s.heap[a]? = some c → ∃ c' : Cell, T.heap[a]? = some c' ∧ c'.slots.size = c.slots.size := fun a c ha => by
    obtain ⟨c', q1, q2, q3, q4⟩ := h6 a c ha
    exact ⟨c', q1, q3⟩
  refine ⟨h2, h3, fun b hb => ?_⟩
  rw [nsl_split hc hb]
  exact Nat.add_le_add_left h5 _
theorem W.know (kk : GR s.heap H cells slots → W p l e R s m args below meth c H locs cells slots Q g) : W p l e R s m args below meth c H locs cells slots Q g := fun T hT X => kk (by rw [← hT]; exact gr_stand X) T hT X
theorem W.tight {k n : Nat} (hg : GR s.heap H k n) (kk : W p l e R s m args below meth c H locs k n Q g) : W p l e R s m args below meth c H locs cells slots Q g := by
  intro T hT X
  refine kk T hT { X with same := ?_ }
  obtain ⟨h1, h2, h3, h4, h5, h6⟩ := X.same
  have hT2 : (T.setVm s.vm).heap = H := hT
  refine ⟨h1, h2, by rw [hT2]; exact hg.2.1, h4, ?_, h6⟩
  have := hg.2.2 s.heap.size (Nat.le_refl _)
  rw [nsl_0, Nat.zero_add] at this
  rw [hT2]
  exact this
end GRW

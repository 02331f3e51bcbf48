/-! the pure part: rows of numbers -/
abbrev qIn (nq : Nat) (iq : Int32) : Prop := 0 ≤ iq ∧ iq.toNatClampNeg < nq
def qRd (nq : Nat) (fq : Nat → Int32) (iq : Int32) : Int32 := if qIn nq iq then fq iq.toNatClampNeg else -1
def qWr (nq : Nat) (fq : Nat → Int32) (iq vq : Int32) : Nat → Int32 := if qIn nq iq then upd fq iq.toNatClampNeg vq else fq
theorem qLe {nq : Nat} (hn : nq < 2 ^ 31) {iq : Int32} (h0 : 0 ≤ iq) : Int32.ofNat nq ≤ iq ↔ nq ≤ iq.toNatClampNeg := by
  have h1 : (Int32.ofNat nq).toInt = (nq : Int) := Int32.toInt_ofNat_of_lt hn
  have h2 : 0 ≤ iq.toInt := by have := Int32.le_iff_toInt_le.mp h0; rwa [Int32.toInt_zero] at this
  rw [Int32.le_iff_toInt_le, h1]
  show (nq : Int) ≤ iq.toInt ↔ nq ≤ iq.toInt.toNat
  omega
section QB
variable {so : Nat → Nat} {g : pwG} {w : pwW} {aq nq tq : Nat} {iq vq : Int32} {fq : Nat → Int32}
theorem qLen (hw : w aq = .inl (tq, nq, .inl fq)) (ht : tq = 0 ∨ tq = 4) : pwLen w aq = some nq := by
  unfold pwLen; rw [hw]; rcases ht with rfl | rfl <;> rfl
theorem qLd (hw : w aq = .inl (tq, nq, .inl fq)) (ht : tq = 0 ∨ tq = 4) (hi : qIn nq iq) : pwLd w aq iq = some (fq iq.toNatClampNeg) := by
  unfold pwLd; rw [hw]; exact if_pos ⟨ht, hi⟩
theorem qSt (hw : w aq = .inl (0, nq, .inl fq)) (hi : qIn nq iq) : pwSt0 w aq iq vq = some (va_up w aq (.inl (0, nq, .inl (upd fq iq.toNatClampNeg vq)))) := by
  unfold pwSt0; rw [hw]; exact if_pos ⟨rfl, hi⟩
/-- at(row, i) -/
theorem q_at (hw : w aq = .inl (tq, nq, .inl fq)) (ht : tq = 0 ∨ tq = 4) (hn : nq < 2 ^ 31) : pwX so 126 0 [some (.ref aq), some (.int iq)] [] g w = some (.inl (some (.int (qRd nq fq iq))), g, w) := by
  simp only [s_X7_at_0, s_X7_at_1]
  by_cases h0 : iq < 0
  · have hx : ¬ qIn nq iq := fun h => Int32.not_lt.mpr h.1 h0
    rw [if_pos h0]
    simp only [s_X7_at_16, s_X7_at_17, qRd, if_neg hx]
  · have h1 : 0 ≤ iq := Int32.not_lt.mp h0
    rw [if_neg h0]
    simp only [s_X7_at_4, s_X7_at_5, s_X7_at_6, qLen hw ht, Option.bind_some, s_X7_at_7]
    by_cases h2 : Int32.ofNat nq ≤ iq
    · have hx : ¬ qIn nq iq := fun h => by have := (qLe hn h1).mp h2; have := h.2; omega
      rw [if_pos h2]
      simp only [s_X7_at_16, s_X7_at_17, qRd, if_neg hx]
    · have hx : qIn nq iq := ⟨h1, by have := mt (qLe hn h1).mpr h2; omega⟩
      rw [if_neg h2]
      simp only [s_X7_at_10, s_X7_at_11, s_X7_at_12, qLd hw ht hx, Option.bind_some, s_X7_at_13, s_X7_at_17, qRd, if_pos hx]
theorem qUpSame {wq : pwW} {xq : va_E} (h : wq aq = xq) : va_up wq aq xq = wq := by
  funext bq
  unfold va_up
  by_cases hb : bq = aq
  · rw [if_pos hb, hb, h]
  · rw [if_neg hb]
/-- put(row, i, v) -/
theorem q_put (hw : w aq = .inl (0, nq, .inl fq)) (hn : nq < 2 ^ 31) : pwX so 127 0 [some (.ref aq), some (.int iq), some (.int vq)] [] g w = some (.inl none, g, va_up w aq (.inl (0, nq, .inl (qWr nq fq iq vq)))) := by
  simp only [s_X7_put_0, s_X7_put_1]
  by_cases h0 : iq < 0
  · have hx : ¬ qIn nq iq := fun h => Int32.not_lt.mpr h.1 h0
    rw [if_pos h0]
    simp only [s_X7_put_14, qWr, if_neg hx, qUpSame hw]
  · have h1 : 0 ≤ iq := Int32.not_lt.mp h0
    rw [if_neg h0]
    simp only [s_X7_put_4, s_X7_put_5, s_X7_put_6, qLen hw (Or.inl rfl), Option.bind_some, s_X7_put_7]
    by_cases h2 : Int32.ofNat nq ≤ iq
    · have hx : ¬ qIn nq iq := fun h => by have := (qLe hn h1).mp h2; have := h.2; omega
      rw [if_pos h2]
      simp only [s_X7_put_14, qWr, if_neg hx, qUpSame hw]
    · have hx : qIn nq iq := ⟨h1, by have := mt (qLe hn h1).mpr h2; omega⟩
      rw [if_neg h2]
      simp only [s_X7_put_10, s_X7_put_11, s_X7_put_12, s_X7_put_13, qSt hw hx, Option.bind_some, s_X7_put_14, qWr, if_pos hx]
end QB

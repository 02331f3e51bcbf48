/-! the pure part: a town in the heap: 15 cells in the order of construction; numbers sc (0 count, 1 walkers, 2 time, 3 rule, 4 mixing), rows R (2 cells .. 8 readers, 9 letters .. 14 cellsAt) -/
def qSz (jq : Nat) : Nat := if jq ≤ 7 then 4 else if jq = 8 then 40 else 10
def mkT (bq : Nat) (xq : Int64) (sc : Nat → Int32) (Rq : Nat → Nat → Int32) (w : pwW) : pwW := fun aq =>
  if aq = bq then .inr (4, [.ref (bq + 1), .int (sc 1), .int (sc 2), .int (sc 3), .int (sc 4), .long xq, .ref (bq + 9), .ref (bq + 10), .ref (bq + 11), .ref (bq + 12), .ref (bq + 13), .ref (bq + 14)])
  else if aq = bq + 1 then .inr (3, [.int (sc 0), .ref (bq + 2), .ref (bq + 3), .ref (bq + 4), .ref (bq + 5), .ref (bq + 6), .ref (bq + 7), .ref (bq + 8)])
  else if bq < aq ∧ aq < bq + 15 then .inl (0, qSz (aq - bq), .inl (Rq (aq - bq)))
  else w aq
section QT
variable {bq : Nat} {xq : Int64} {sc : Nat → Int32} {Rq : Nat → Nat → Int32} {w : pwW}
theorem mkT_0 : mkT bq xq sc Rq w bq = .inr (4, [.ref (bq + 1), .int (sc 1), .int (sc 2), .int (sc 3), .int (sc 4), .long xq, .ref (bq + 9), .ref (bq + 10), .ref (bq + 11), .ref (bq + 12), .ref (bq + 13), .ref (bq + 14)]) := by unfold mkT; rw [if_pos rfl]
theorem mkT_1 : mkT bq xq sc Rq w (bq + 1) = .inr (3, [.int (sc 0), .ref (bq + 2), .ref (bq + 3), .ref (bq + 4), .ref (bq + 5), .ref (bq + 6), .ref (bq + 7), .ref (bq + 8)]) := by
  unfold mkT; rw [if_neg (by omega), if_pos rfl]
theorem mkT_r {jq : Nat} (h1 : 2 ≤ jq) (h2 : jq < 15) : mkT bq xq sc Rq w (bq + jq) = .inl (0, qSz jq, .inl (Rq jq)) := by
  unfold mkT; rw [if_neg (by omega), if_neg (by omega), if_pos ⟨by omega, by omega⟩, Nat.add_sub_cancel_left]
theorem mkT_o {aq : Nat} (h : aq < bq ∨ bq + 15 ≤ aq) : mkT bq xq sc Rq w aq = w aq := by
  unfold mkT; rw [if_neg (by omega), if_neg (by omega), if_neg (by omega)]
theorem mkT_w {jq : Nat} (h1 : 2 ≤ jq) (h2 : jq < 15) {fq : Nat → Int32} : va_up (mkT bq xq sc Rq w) (bq + jq) (.inl (0, qSz jq, .inl fq)) = mkT bq xq sc (va_up Rq jq fq) w := by
  funext aq
  unfold va_up mkT
  by_cases ha : aq = bq + jq
  · subst ha
    rw [if_pos rfl, if_neg (by omega), if_neg (by omega), if_pos ⟨by omega, by omega⟩, Nat.add_sub_cancel_left]
    have hz : (if jq = jq then fq else Rq jq) = fq := if_pos rfl
    exact congrArg (fun zq => (Sum.inl (0, qSz jq, Sum.inl zq) : va_E)) hz.symm
  · rw [if_neg ha]
    by_cases h3 : aq = bq
    · rw [if_pos h3, if_pos h3]
    · rw [if_neg h3, if_neg h3]
      by_cases h4 : aq = bq + 1
      · rw [if_pos h4, if_pos h4]
      · rw [if_neg h4, if_neg h4]
        by_cases h5 : bq < aq ∧ aq < bq + 15
        · rw [if_pos h5, if_pos h5]
          have hz : (if aq - bq = jq then fq else Rq (aq - bq)) = Rq (aq - bq) := if_neg (by omega)
          exact congrArg (fun zq => (Sum.inl (0, qSz (aq - bq), Sum.inl zq) : va_E)) hz.symm
        · rw [if_neg h5, if_neg h5]
theorem mkT_g {kq : Nat} : pwGet (mkT bq xq sc Rq w) bq 4 kq = ([.ref (bq + 1), .int (sc 1), .int (sc 2), .int (sc 3), .int (sc 4), .long xq, .ref (bq + 9), .ref (bq + 10), .ref (bq + 11), .ref (bq + 12), .ref (bq + 13), .ref (bq + 14)] : List Value)[kq]? := by unfold pwGet; rw [mkT_0]; rfl
theorem mkT_gs {kq : Nat} : pwGet (mkT bq xq sc Rq w) (bq + 1) 3 kq = ([.int (sc 0), .ref (bq + 2), .ref (bq + 3), .ref (bq + 4), .ref (bq + 5), .ref (bq + 6), .ref (bq + 7), .ref (bq + 8)] : List Value)[kq]? := by unfold pwGet; rw [mkT_1]; rfl
theorem mkT_i : pwIsC (mkT bq xq sc Rq w) bq 4 = true := by unfold pwIsC; rw [mkT_0]; rfl
theorem mkT_is : pwIsC (mkT bq xq sc Rq w) (bq + 1) 3 = true := by unfold pwIsC; rw [mkT_1]; rfl
end QT

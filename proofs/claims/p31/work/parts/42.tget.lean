/-! the pure part: what a town answers -/
section QG
variable {so : Nat → Nat} {g : pwG} {bq : Nat} {xq : Int64} {sc : Nat → Int32} {Rq : Nat → Nat → Int32} {w : pwW} {pq sq cq iq vq : Int32}
theorem qAv {f9 : pwFF} {mi pc pc2 : Nat} {L : pwLL} {c1 : Nat × pwLL} {st : List Value} {v9 : Value} : pwAft f9 mi pc L (c1, pc2, st) (some (.inl (some v9), g, w)) = f9 mi pc2 L (v9 :: st) g w := rfl
theorem qAn {f9 : pwFF} {mi pc pc2 : Nat} {L : pwLL} {c1 : Nat × pwLL} {st : List Value} : pwAft f9 mi pc L (c1, pc2, st) (some (.inl none, g, w)) = f9 mi pc2 L st g w := rfl
theorem qSzS {jq : Nat} : qSz jq < 2 ^ 31 := by
  unfold qSz; split
  · decide
  · split <;> decide
theorem q_atT {jq : Nat} (h1 : 2 ≤ jq) (h2 : jq < 15) : pwX so 126 0 [some (.ref (bq + jq)), some (.int iq)] [] g (mkT bq xq sc Rq w) = some (.inl (some (.int (qRd (qSz jq) (Rq jq) iq))), g, mkT bq xq sc Rq w) := q_at (mkT_r h1 h2) (Or.inl rfl) qSzS
theorem q_putT {jq : Nat} (h1 : 2 ≤ jq) (h2 : jq < 15) : pwX so 127 0 [some (.ref (bq + jq)), some (.int iq), some (.int vq)] [] g (mkT bq xq sc Rq w) = some (.inl none, g, mkT bq xq sc (va_up Rq jq (qWr (qSz jq) (Rq jq) iq vq)) w) := by
  rw [q_put (mkT_r h1 h2) qSzS, mkT_w h1 h2]
theorem q_isInCell : pwX so 54 0 [some (.ref bq), some (.int pq), some (.int sq), some (.int cq)] [] g (mkT bq xq sc Rq w) = some (.inl (some (.int (if qRd (qSz 12) (Rq 12) pq = 1 ∧ qRd (qSz 13) (Rq 13) pq = sq ∧ qRd (qSz 14) (Rq 14) pq = cq then 1 else 0))), g, mkT bq xq sc Rq w) := by
  have e12 := @q_atT so g bq xq sc Rq w pq 12 (by decide) (by decide)
  have e13 := @q_atT so g bq xq sc Rq w pq 13 (by decide) (by decide)
  have e14 := @q_atT so g bq xq sc Rq w pq 14 (by decide) (by decide)
  simp only [s_X5_isInCell_0, s_X5_isInCell_1, s_X5_isInCell_4, s_X5_isInCell_5, mkT_g, List.getElem?_cons_succ, List.getElem?_cons_zero, Option.bind_some, e12, qAv, s_X5_isInCell_8, s_X5_isInCell_9]
  by_cases h12 : qRd (qSz 12) (Rq 12) pq = 1
  · rw [if_pos h12]
    simp only [s_X5_isInCell_12, s_X5_isInCell_13, s_X5_isInCell_16, s_X5_isInCell_17, mkT_g, List.getElem?_cons_succ, List.getElem?_cons_zero, Option.bind_some, e13, qAv, s_X5_isInCell_20, s_X5_isInCell_21]
    by_cases h13 : qRd (qSz 13) (Rq 13) pq = sq
    · rw [if_pos h13]
      simp only [s_X5_isInCell_24, s_X5_isInCell_25, s_X5_isInCell_28, s_X5_isInCell_29, mkT_g, List.getElem?_cons_succ, List.getElem?_cons_zero, Option.bind_some, e14, qAv, s_X5_isInCell_32, s_X5_isInCell_33]
      by_cases h14 : qRd (qSz 14) (Rq 14) pq = cq
      · rw [if_pos h14, if_pos ⟨h12, h13, h14⟩]
        simp only [s_X5_isInCell_36, s_X5_isInCell_37, s_X5_isInCell_41]
        rfl
      · rw [if_neg h14, if_neg (fun h => h14 h.2.2)]
        simp only [s_X5_isInCell_40, s_X5_isInCell_41]
        rfl
    · rw [if_neg h13, if_neg (fun h => h13 h.2.1)]
      simp only [s_X5_isInCell_40, s_X5_isInCell_41]
      rfl
  · rw [if_neg h12, if_neg (fun h => h12 h.1)]
    simp only [s_X5_isInCell_40, s_X5_isInCell_41]
    rfl
end QG

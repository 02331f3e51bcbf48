/-! the pure part: the class reads a text: a sign -/
abbrev RS : Type := Nat × Nat × Option Nat × Bool × (Nat → Int32)
def oT (tq : Option Nat) : Int32 := match tq with
  | none => zM
  | some t9 => zN t9
theorem oT_n : oT none = zM := rfl
theorem oT_v {t9 : Nat} : oT (some t9) = zN t9 := rfl
def bsN (cq : Nat) : Nat := if cq = 119 then 65 else 48
def hiN (cq : Nat) : Nat := if cq = 119 then 25 else 9
def vlN (tq : Option Nat) (dq : Nat) : Nat := match tq with
  | none => dq
  | some t9 => 10 * t9 + dq
def pSt (sq : RS) (cq : Nat) : Bool × RS :=
  if sq.2.2.2.1 = true then (if ltI cq = 7 then (false, sq) else (true, (cq, 0, none, false, sq.2.2.2.2)))
  else if cq < bsN sq.1 ∨ bsN sq.1 + hiN sq.1 < cq then (false, sq)
  else if rwV (ltI sq.1) (3 * sq.2.1) = 2 ∧ sq.2.2.1 = none then (decide (rwV (ltI sq.1) (3 * sq.2.1 + 1) ≤ 10 * (cq - bsN sq.1) + 9 ∧ 10 * (cq - bsN sq.1) ≤ rwV (ltI sq.1) (3 * sq.2.1 + 2)), (sq.1, sq.2.1, some (cq - bsN sq.1), false, sq.2.2.2.2))
  else (decide (rwV (ltI sq.1) (3 * sq.2.1 + 1) ≤ vlN sq.2.2.1 (cq - bsN sq.1) ∧ vlN sq.2.2.1 (cq - bsN sq.1) ≤ rwV (ltI sq.1) (3 * sq.2.1 + 2)), (sq.1, sq.2.1 + 1, none, decide (rwN (ltI sq.1) ≤ 3 * (sq.2.1 + 1)), upd sq.2.2.2.2 sq.2.1 (zN (vlN sq.2.2.1 (cq - bsN sq.1)))))
def inRS (sq : RS) : Prop := sq.2.2.2.1 = true ∨ (sq.1 ≤ 255 ∧ ltI sq.1 < 7 ∧ 3 * sq.2.1 + 2 < rwN (ltI sq.1) ∧ ∀ t9, sq.2.2.1 = some t9 → t9 ≤ 25 ∧ rwV (ltI sq.1) (3 * sq.2.1) = 2)
theorem bsN_P {cq : Nat} : bsP cq (bsN cq) (hiN cq) := by
  unfold bsP bsN hiN
  by_cases h : cq = 119
  · rw [if_pos h, if_pos h]; exact Or.inl ⟨h, rfl, rfl⟩
  · rw [if_neg h, if_neg h]; exact Or.inr ⟨h, rfl, rfl⟩
theorem rwN_3 {jq : Nat} : rwN jq % 3 = 0 := by
  unfold rwN
  repeat' split
  all_goals rfl
theorem rwN_2 {jq : Nat} (h : jq < 7) : 2 < rwN jq := by
  unfold rwN
  repeat' split
  all_goals omega
def mkR (tq : Nat) (lq : Int32) (sq : RS) (w : pwW) : pwW := mkX tq lq (zN sq.1) (zN sq.2.1) (oT sq.2.2.1) (if sq.2.2.2.1 = true then zN 1 else zN 0) sq.2.2.2.2 w
theorem inRS_step {sq : RS} {cq : Nat} (h : inRS sq) (hc : cq ≤ 255) : inRS (pSt sq cq).2 := by
  unfold pSt
  split
  · next h1 =>
    split
    · exact Or.inl h1
    · next h2 =>
      have h3 := @ltI_le cq
      have h4 : ltI cq < 7 := by omega
      exact Or.inr ⟨hc, h4, by have := rwN_2 h4; dsimp only; omega, fun t9 ht => by cases ht⟩
  · next h1 =>
    rcases h with h | ⟨i1, i2, i3, i4⟩
    · exact absurd h h1
    · split
      · exact Or.inr ⟨i1, i2, i3, i4⟩
      · next h2 =>
        have hb := @bsN_P sq.1
        have h5 : cq - bsN sq.1 ≤ 25 := by unfold bsP at hb; omega
        split
        · next h3 => exact Or.inr ⟨i1, i2, i3, fun t9 ht => by cases ht; exact ⟨h5, h3.1⟩⟩
        · by_cases h6 : rwN (ltI sq.1) ≤ 3 * (sq.2.1 + 1)
          · exact Or.inl (decide_eq_true h6)
          · have h7 := @rwN_3 (ltI sq.1)
            exact Or.inr ⟨i1, i2, by dsimp only; omega, fun t9 ht => by cases ht⟩
section QA
variable {so : Nat → Nat} {g : pwG} {xx tq cq : Nat} {w w1 : pwW} {lq cm nx tn wh vq : Int32} {fn fm : Nat → Int32} {sq : RS}
theorem m_takes (hs : soW so tq w) (hc : cq ≤ 255) (hI : inRS sq) : pwX so 90 0 [some (.ref tq), some (.int (zN cq))] [] g (mkR tq lq sq w) = some (.inl (some (.int (if (pSt sq cq).1 = true then zN 1 else zN 0))), g, (mkR tq lq (pSt sq cq).2 w)) := by
  obtain ⟨c9, n9, t9, w9, f9⟩ := sq
  unfold pSt mkR
  dsimp only
  by_cases h1 : w9 = true
  · subst h1
    rw [if_pos rfl, if_pos rfl]
    have b0 := @m_takesLetter so g tq cq w lq (zN c9) (zN n9) (oT t9) (zN 1) f9 hs hc
    by_cases h2 : ltI cq = 7
    · rw [if_pos h2] at b0
      rw [if_pos h2]
      simp (disch := omega) only [s_X6_takes_0, s_X6_takes_1, s_X6_takes_4, s_X6_takes_7, s_X6_takes_8, s_X6_takes_9, s_X6_takes_12, s_X6_takes_15, s_X6_takes_16, s_X6_takes_17, s_X6_takes_20, zN_neg1, nL0, nL1, nL2, nL3, nL4, nL5, nL6, nL7, nL8, nL9, nL10, nL11, nL12, nL13, nL14, nL20, nL21, nL22, nL23, nL25, nL32, nL33, nL39, nL40, nL43, nL44, nL99, nL100, nL120, nL216, nL217, nL218, nL219, nL220, nL221, nL500, nL999, nL1000, nL10000, nL100000, sh33, zN_lt, zN_le, zN_eq, zN_ge0, zN_lt0, zN_nm, zN_mn, zN_mlt, zN_ltm, zN_lem, zN_mle, zN_m1, zN_m2, zN_addm, zN_ofNat, zN_beq, zN_add, zN_sub, zN_mul, zN_rem, qT_lt, qF_lt, qT_le, qF_le, qT_eq, qF_eq, ↓reduceIte, and_true, true_and, false_and, and_false, not_true_eq_false, not_false_eq_true, decide_true, decide_false, Bool.true_or, Bool.or_true, Bool.false_or, Bool.or_false, cond_true, cond_false, qAv, cond_true, Option.bind_some, List.getElem?_cons_succ, List.getElem?_cons_zero, mx_g, mx_i, b0, qbi, qb1, qb0, Bool.false_eq_true]
    · rw [if_neg h2] at b0
      rw [if_neg h2]
      simp (disch := omega) only [s_X6_takes_0, s_X6_takes_1, s_X6_takes_4, s_X6_takes_7, s_X6_takes_8, s_X6_takes_9, s_X6_takes_12, s_X6_takes_15, s_X6_takes_16, s_X6_takes_17, s_X6_takes_20, zN_neg1, nL0, nL1, nL2, nL3, nL4, nL5, nL6, nL7, nL8, nL9, nL10, nL11, nL12, nL13, nL14, nL20, nL21, nL22, nL23, nL25, nL32, nL33, nL39, nL40, nL43, nL44, nL99, nL100, nL120, nL216, nL217, nL218, nL219, nL220, nL221, nL500, nL999, nL1000, nL10000, nL100000, sh33, zN_lt, zN_le, zN_eq, zN_ge0, zN_lt0, zN_nm, zN_mn, zN_mlt, zN_ltm, zN_lem, zN_mle, zN_m1, zN_m2, zN_addm, zN_ofNat, zN_beq, zN_add, zN_sub, zN_mul, zN_rem, qT_lt, qF_lt, qT_le, qF_le, qT_eq, qF_eq, ↓reduceIte, and_true, true_and, false_and, and_false, not_true_eq_false, not_false_eq_true, decide_true, decide_false, Bool.true_or, Bool.or_true, Bool.false_or, Bool.or_false, cond_true, cond_false, qAv, cond_true, Option.bind_some, List.getElem?_cons_succ, List.getElem?_cons_zero, mx_g, mx_i, b0, qbi, qb1, qb0, oT_n, Bool.false_eq_true]
  · rw [if_neg h1, if_neg h1]
    rcases hI with hI | ⟨i1, i2, i3, i4⟩
    · exact absurd hI h1
    · dsimp only at i1 i2 i3 i4
      have hb := @bsN_P c9
      by_cases h2 : cq < bsN c9 ∨ bsN c9 + hiN c9 < cq
      · rw [if_pos h2]
        have b0 := @m_numA so g tq c9 w lq (oT t9) (zN 0) f9 cq n9 _ _ hs i1 i2 i3 hb hc h2
        dsimp only
        rw [if_neg h1]
        simp (disch := omega) only [s_X6_takes_0, s_X6_takes_1, s_X6_takes_4, s_X6_takes_7, s_X6_takes_8, s_X6_takes_9, s_X6_takes_12, s_X6_takes_15, s_X6_takes_16, s_X6_takes_17, s_X6_takes_20, zN_neg1, nL0, nL1, nL2, nL3, nL4, nL5, nL6, nL7, nL8, nL9, nL10, nL11, nL12, nL13, nL14, nL20, nL21, nL22, nL23, nL25, nL32, nL33, nL39, nL40, nL43, nL44, nL99, nL100, nL120, nL216, nL217, nL218, nL219, nL220, nL221, nL500, nL999, nL1000, nL10000, nL100000, sh33, zN_lt, zN_le, zN_eq, zN_ge0, zN_lt0, zN_nm, zN_mn, zN_mlt, zN_ltm, zN_lem, zN_mle, zN_m1, zN_m2, zN_addm, zN_ofNat, zN_beq, zN_add, zN_sub, zN_mul, zN_rem, qT_lt, qF_lt, qT_le, qF_le, qT_eq, qF_eq, ↓reduceIte, and_true, true_and, false_and, and_false, not_true_eq_false, not_false_eq_true, decide_true, decide_false, Bool.true_or, Bool.or_true, Bool.false_or, Bool.or_false, cond_true, cond_false, qAv, cond_true, Option.bind_some, List.getElem?_cons_succ, List.getElem?_cons_zero, mx_g, mx_i, b0, qbi, qb1, qb0, Bool.false_eq_true]
      · rw [if_neg h2]
        have e1 : bsN c9 + (cq - bsN c9) = cq := by omega
        have e2 : cq - bsN c9 ≤ hiN c9 := by omega
        by_cases h3 : rwV (ltI c9) (3 * n9) = 2 ∧ t9 = none
        · rw [if_pos h3]
          obtain ⟨h4, rfl⟩ := h3
          have b0 := @m_numB so g tq c9 w lq (zN 0) f9 n9 (cq - bsN c9) _ _ hs i1 i2 i3 hb e2 h4
          rw [e1] at b0
          simp (disch := omega) only [s_X6_takes_0, s_X6_takes_1, s_X6_takes_4, s_X6_takes_7, s_X6_takes_8, s_X6_takes_9, s_X6_takes_12, s_X6_takes_15, s_X6_takes_16, s_X6_takes_17, s_X6_takes_20, zN_neg1, nL0, nL1, nL2, nL3, nL4, nL5, nL6, nL7, nL8, nL9, nL10, nL11, nL12, nL13, nL14, nL20, nL21, nL22, nL23, nL25, nL32, nL33, nL39, nL40, nL43, nL44, nL99, nL100, nL120, nL216, nL217, nL218, nL219, nL220, nL221, nL500, nL999, nL1000, nL10000, nL100000, sh33, zN_lt, zN_le, zN_eq, zN_ge0, zN_lt0, zN_nm, zN_mn, zN_mlt, zN_ltm, zN_lem, zN_mle, zN_m1, zN_m2, zN_addm, zN_ofNat, zN_beq, zN_add, zN_sub, zN_mul, zN_rem, qT_lt, qF_lt, qT_le, qF_le, qT_eq, qF_eq, ↓reduceIte, and_true, true_and, false_and, and_false, not_true_eq_false, not_false_eq_true, decide_true, decide_false, Bool.true_or, Bool.or_true, Bool.false_or, Bool.or_false, cond_true, cond_false, qAv, cond_true, Option.bind_some, List.getElem?_cons_succ, List.getElem?_cons_zero, mx_g, mx_i, oT_n, oT_v, b0, qbi, qb1, qb0, qI_b, Bool.false_eq_true, decide_eq_true_eq]
          rfl
        · rw [if_neg h3]
          have b0 := @m_numC so g tq c9 w lq (oT t9) (zN 0) f9 n9 (cq - bsN c9) (bsN c9) (hiN c9) (t9.getD 0) (vlN t9 (cq - bsN c9)) hs i1 i2 i3 hb e2 (by
            cases t9 with
            | none => exact Or.inl ⟨rfl, fun hh => h3 ⟨hh, rfl⟩, rfl⟩
            | some t8 => exact Or.inr ⟨rfl, (i4 t8 rfl).1, (i4 t8 rfl).2, rfl⟩)
          rw [e1] at b0
          simp (disch := omega) only [s_X6_takes_0, s_X6_takes_1, s_X6_takes_4, s_X6_takes_7, s_X6_takes_8, s_X6_takes_9, s_X6_takes_12, s_X6_takes_15, s_X6_takes_16, s_X6_takes_17, s_X6_takes_20, zN_neg1, nL0, nL1, nL2, nL3, nL4, nL5, nL6, nL7, nL8, nL9, nL10, nL11, nL12, nL13, nL14, nL20, nL21, nL22, nL23, nL25, nL32, nL33, nL39, nL40, nL43, nL44, nL99, nL100, nL120, nL216, nL217, nL218, nL219, nL220, nL221, nL500, nL999, nL1000, nL10000, nL100000, sh33, zN_lt, zN_le, zN_eq, zN_ge0, zN_lt0, zN_nm, zN_mn, zN_mlt, zN_ltm, zN_lem, zN_mle, zN_m1, zN_m2, zN_addm, zN_ofNat, zN_beq, zN_add, zN_sub, zN_mul, zN_rem, qT_lt, qF_lt, qT_le, qF_le, qT_eq, qF_eq, ↓reduceIte, and_true, true_and, false_and, and_false, not_true_eq_false, not_false_eq_true, decide_true, decide_false, Bool.true_or, Bool.or_true, Bool.false_or, Bool.or_false, cond_true, cond_false, qAv, cond_true, Option.bind_some, List.getElem?_cons_succ, List.getElem?_cons_zero, mx_g, mx_i, b0, qbi, qb1, qb0, qI_b, Bool.false_eq_true, decide_eq_true_eq]
          rfl
end QA

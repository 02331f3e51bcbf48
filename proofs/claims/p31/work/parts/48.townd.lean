/-! the pure part: a town: the parts of a tick; pairs -/
/-- those in cells go on; lm is where it is no longer free -/
def mvC : Nat → List (Nat × Nat) → List (Nat × Nat)
  | _, [] => []
  | lm, eq :: es => if eq.1 + 1 < lm then (eq.1 + 1, eq.2) :: mvC (eq.1 + 1) es else eq :: mvC eq.1 es
/-- cells fall strictly and lie below lm -/
def cDown : Nat → List (Nat × Nat) → Prop
  | _, [] => True
  | lm, eq :: es => eq.1 < lm ∧ cDown eq.1 es
/-- the one farthest ahead of the pairs side by side changes places -/
def mxC : List (Nat × Nat) → List (Nat × Nat)
  | [] => []
  | [eq] => [eq]
  | eq :: e2 :: es => if eq.1 = e2.1 + 1 ∧ e2.2 < eq.2 then (eq.1, e2.2) :: (e2.1, eq.2) :: es else eq :: mxC (e2 :: es)
def pIn (fq : Nat → Int32) (iq : Nat) : Nat → Nat
  | 0 => 0
  | jq + 1 => pIn fq iq jq + (if iq < jq ∧ fq jq < fq iq then 1 else 0)
def pOut (fq : Nat → Int32) (nq : Nat) : Nat → Nat
  | 0 => 0
  | iq + 1 => pOut fq nq iq + pIn fq iq nq
theorem pIn_le {fq : Nat → Int32} {iq : Nat} : ∀ nq, pIn fq iq nq ≤ nq
  | 0 => Nat.le_refl _
  | nq + 1 => by have := @pIn_le fq iq nq; unfold pIn; split <;> omega
theorem pOut_le {fq : Nat → Int32} {nq : Nat} : ∀ iq, pOut fq nq iq ≤ iq * nq
  | 0 => by unfold pOut; omega
  | iq + 1 => by
    have := @pOut_le fq nq iq
    have := @pIn_le fq iq nq
    unfold pOut; rw [Nat.succ_mul]; omega
theorem pIn_0 {fq : Nat → Int32} {iq : Nat} : ∀ jq, jq ≤ iq + 1 → pIn fq iq jq = 0
  | 0, _ => rfl
  | jq + 1, h => by unfold pIn; rw [pIn_0 jq (by omega), if_neg (by omega)]
section QA
variable {so : Nat → Nat} {g : pwG} {bq : Nat} {xq : Int64} {sc : Nat → Int32} {Rq : Nat → Nat → Int32} {w : pwW} {pq rq tq uq : Int32} {Sq sq nq : Nat}
theorem m_joinsCrowd {pp cr wd ce : Nat} (hs : sq < 4) (hp : pp < 10) (hw : Rq 6 sq = zN wd) (hc : Rq 2 sq = zN ce) (h1 : cr ≤ 10) (h2 : wd ≤ 6) (h3 : 2 ≤ ce) (h4 : ce ≤ 20) : pwX so 78 0 [some (.ref bq), some (.int (zN sq)), some (.int (zN pp)), some (.int (zN cr))] [] g (mkT bq xq sc Rq w) = some (.inl (some (.int (if cr < wd ∧ qInC Rq pp (zN sq) (zN (ce - 1)) then zN 1 else zN 0))), g, (mkT bq xq sc Rq w)) := by
  have hI := @m_isInCell so g bq xq sc Rq w (zN sq) (zN (ce - 1)) pp hp
  by_cases h5 : cr < wd
  · by_cases h6 : qInC Rq pp (zN sq) (zN (ce - 1))
    · rw [if_pos h6] at hI
      rw [if_pos ⟨h5, h6⟩]
      simp (disch := omega) only [s_X5_joinsCrowd_0, s_X5_joinsCrowd_1, s_X5_joinsCrowd_2, s_X5_joinsCrowd_5, s_X5_joinsCrowd_6, s_X5_joinsCrowd_9, s_X5_joinsCrowd_12, s_X5_joinsCrowd_13, s_X5_joinsCrowd_14, s_X5_joinsCrowd_15, s_X5_joinsCrowd_16, s_X5_joinsCrowd_19, s_X5_joinsCrowd_20, s_X5_joinsCrowd_23, s_X5_joinsCrowd_24, s_X5_joinsCrowd_25, s_X5_joinsCrowd_28, s_X5_joinsCrowd_31, s_X5_joinsCrowd_32, s_X5_joinsCrowd_35, s_X5_joinsCrowd_36, ↓tg0, ↓tg1, ↓tg2, ↓tg3, ↓tg4, ↓tg5, ↓tg6, ↓tg7, ↓tg8, ↓tg9, ↓tg10, ↓tg11, ↓ts0, ↓ts1, ↓ts2, ↓ts3, ↓ts4, ↓ts5, ↓ts6, ↓ts7, ↓tp_x, ↓tp1, ↓tp2, ↓tp3, ↓tp4, ↓tps, mkT_i, mkT_is, cond_true, cond_false, qAv, qAn, qV_vv, q_atT, q_putT, qz4, qz40, qz10, qRd_in, qRd_out, qRd_m, qWr_in, qU_s, qU_n, qV_s, qV_n, zN_neg1, nL0, nL1, nL2, nL3, nL4, nL5, nL6, nL7, nL8, nL9, nL10, nL11, nL12, nL13, nL14, nL20, nL21, nL22, nL23, nL25, nL32, nL33, nL39, nL40, nL43, nL44, nL99, nL100, nL120, nL216, nL217, nL218, nL219, nL220, nL221, nL500, nL999, nL1000, nL10000, nL100000, sh33, zN_lt, zN_le, zN_eq, zN_ge0, zN_lt0, zN_nm, zN_mn, zN_mlt, zN_ltm, zN_lem, zN_mle, zN_m1, zN_m2, zN_addm, zN_ofNat, zN_beq, zN_add, zN_sub, zN_mul, zN_rem, qT_lt, qF_lt, qT_le, qF_le, qT_eq, qF_eq, ↓reduceIte, and_true, true_and, false_and, and_false, not_true_eq_false, not_false_eq_true, decide_true, decide_false, Bool.true_or, Bool.or_true, Bool.false_or, Bool.or_false, cond_true, cond_false, qbi, qb1, qb0, m_widthOf, m_cellsOf, hI, hw, hc]
    · rw [if_neg h6] at hI
      rw [if_neg fun hh => h6 hh.2]
      simp (disch := omega) only [s_X5_joinsCrowd_0, s_X5_joinsCrowd_1, s_X5_joinsCrowd_2, s_X5_joinsCrowd_5, s_X5_joinsCrowd_6, s_X5_joinsCrowd_9, s_X5_joinsCrowd_12, s_X5_joinsCrowd_13, s_X5_joinsCrowd_14, s_X5_joinsCrowd_15, s_X5_joinsCrowd_16, s_X5_joinsCrowd_19, s_X5_joinsCrowd_20, s_X5_joinsCrowd_23, s_X5_joinsCrowd_24, s_X5_joinsCrowd_25, s_X5_joinsCrowd_28, s_X5_joinsCrowd_31, s_X5_joinsCrowd_32, s_X5_joinsCrowd_35, s_X5_joinsCrowd_36, ↓tg0, ↓tg1, ↓tg2, ↓tg3, ↓tg4, ↓tg5, ↓tg6, ↓tg7, ↓tg8, ↓tg9, ↓tg10, ↓tg11, ↓ts0, ↓ts1, ↓ts2, ↓ts3, ↓ts4, ↓ts5, ↓ts6, ↓ts7, ↓tp_x, ↓tp1, ↓tp2, ↓tp3, ↓tp4, ↓tps, mkT_i, mkT_is, cond_true, cond_false, qAv, qAn, qV_vv, q_atT, q_putT, qz4, qz40, qz10, qRd_in, qRd_out, qRd_m, qWr_in, qU_s, qU_n, qV_s, qV_n, zN_neg1, nL0, nL1, nL2, nL3, nL4, nL5, nL6, nL7, nL8, nL9, nL10, nL11, nL12, nL13, nL14, nL20, nL21, nL22, nL23, nL25, nL32, nL33, nL39, nL40, nL43, nL44, nL99, nL100, nL120, nL216, nL217, nL218, nL219, nL220, nL221, nL500, nL999, nL1000, nL10000, nL100000, sh33, zN_lt, zN_le, zN_eq, zN_ge0, zN_lt0, zN_nm, zN_mn, zN_mlt, zN_ltm, zN_lem, zN_mle, zN_m1, zN_m2, zN_addm, zN_ofNat, zN_beq, zN_add, zN_sub, zN_mul, zN_rem, qT_lt, qF_lt, qT_le, qF_le, qT_eq, qF_eq, ↓reduceIte, and_true, true_and, false_and, and_false, not_true_eq_false, not_false_eq_true, decide_true, decide_false, Bool.true_or, Bool.or_true, Bool.false_or, Bool.or_false, cond_true, cond_false, qbi, qb1, qb0, m_widthOf, m_cellsOf, hI, hw, hc]
  · rw [if_neg fun hh => h5 hh.1]
    simp (disch := omega) only [s_X5_joinsCrowd_0, s_X5_joinsCrowd_1, s_X5_joinsCrowd_2, s_X5_joinsCrowd_5, s_X5_joinsCrowd_6, s_X5_joinsCrowd_9, s_X5_joinsCrowd_12, s_X5_joinsCrowd_13, s_X5_joinsCrowd_14, s_X5_joinsCrowd_15, s_X5_joinsCrowd_16, s_X5_joinsCrowd_19, s_X5_joinsCrowd_20, s_X5_joinsCrowd_23, s_X5_joinsCrowd_24, s_X5_joinsCrowd_25, s_X5_joinsCrowd_28, s_X5_joinsCrowd_31, s_X5_joinsCrowd_32, s_X5_joinsCrowd_35, s_X5_joinsCrowd_36, ↓tg0, ↓tg1, ↓tg2, ↓tg3, ↓tg4, ↓tg5, ↓tg6, ↓tg7, ↓tg8, ↓tg9, ↓tg10, ↓tg11, ↓ts0, ↓ts1, ↓ts2, ↓ts3, ↓ts4, ↓ts5, ↓ts6, ↓ts7, ↓tp_x, ↓tp1, ↓tp2, ↓tp3, ↓tp4, ↓tps, mkT_i, mkT_is, cond_true, cond_false, qAv, qAn, qV_vv, q_atT, q_putT, qz4, qz40, qz10, qRd_in, qRd_out, qRd_m, qWr_in, qU_s, qU_n, qV_s, qV_n, zN_neg1, nL0, nL1, nL2, nL3, nL4, nL5, nL6, nL7, nL8, nL9, nL10, nL11, nL12, nL13, nL14, nL20, nL21, nL22, nL23, nL25, nL32, nL33, nL39, nL40, nL43, nL44, nL99, nL100, nL120, nL216, nL217, nL218, nL219, nL220, nL221, nL500, nL999, nL1000, nL10000, nL100000, sh33, zN_lt, zN_le, zN_eq, zN_ge0, zN_lt0, zN_nm, zN_mn, zN_mlt, zN_ltm, zN_lem, zN_mle, zN_m1, zN_m2, zN_addm, zN_ofNat, zN_beq, zN_add, zN_sub, zN_mul, zN_rem, qT_lt, qF_lt, qT_le, qF_le, qT_eq, qF_eq, ↓reduceIte, and_true, true_and, false_and, and_false, not_true_eq_false, not_false_eq_true, decide_true, decide_false, Bool.true_or, Bool.or_true, Bool.false_or, Bool.or_false, cond_true, cond_false, qbi, qb1, qb0, m_widthOf, hw]
abbrev qGr (Rq : Nat → Nat → Int32) (sq : Nat) (tq : Int32) (ge gq : Nat) : Prop := tq + Rq 5 sq - (tq + Rq 5 sq) / zN ge * zN ge < zN gq
theorem m_mayLeave {fr en gq eq : Nat} (hs : sq < 4) (hf : fr ≤ en) (he : en ≤ 10) (hg : Rq 3 sq = zN gq) (hr : Rq 4 sq = zN eq) (h1 : 0 < gq) (h2 : gq ≤ 20) (h3 : eq ≤ 20) : pwX so 73 0 [some (.ref bq), some (.int (zN sq)), some (.int (zN fr)), some (.int (zN en))] [] g (mkT bq xq sc Rq w) = some (.inl (some (.int (if fr < en ∧ qGr Rq sq (sc 2) (gq + eq) gq ∧ ¬ (0 < fr ∧ qInC Rq (fr - 1) (zN (sq + 1)) (zN 0)) then zN 1 else zN 0))), g, (mkT bq xq sc Rq w)) := by
  have hG := @m_isGreen so g bq xq sc Rq w (sc 2) sq hs gq eq hg hr h1 h2 h3
  by_cases h5 : fr < en
  · by_cases h6 : qGr Rq sq (sc 2) (gq + eq) gq
    · rw [if_pos h6] at hG
      by_cases h7 : 0 < fr
      · have hI := @m_isInCell so g bq xq sc Rq w (zN (sq + 1)) (zN 0) (fr - 1) (by omega)
        by_cases h8 : qInC Rq (fr - 1) (zN (sq + 1)) (zN 0)
        · rw [if_pos h8] at hI
          rw [if_neg fun hh => hh.2.2 ⟨h7, h8⟩]
          simp (disch := omega) only [s_X5_mayLeave_0, s_X5_mayLeave_1, s_X5_mayLeave_2, s_X5_mayLeave_5, s_X5_mayLeave_6, s_X5_mayLeave_9, s_X5_mayLeave_10, s_X5_mayLeave_11, s_X5_mayLeave_14, s_X5_mayLeave_17, s_X5_mayLeave_20, s_X5_mayLeave_21, s_X5_mayLeave_22, s_X5_mayLeave_23, s_X5_mayLeave_24, s_X5_mayLeave_25, s_X5_mayLeave_26, s_X5_mayLeave_27, s_X5_mayLeave_28, s_X5_mayLeave_31, s_X5_mayLeave_34, s_X5_mayLeave_35, s_X5_mayLeave_38, s_X5_mayLeave_39, ↓tg0, ↓tg1, ↓tg2, ↓tg3, ↓tg4, ↓tg5, ↓tg6, ↓tg7, ↓tg8, ↓tg9, ↓tg10, ↓tg11, ↓ts0, ↓ts1, ↓ts2, ↓ts3, ↓ts4, ↓ts5, ↓ts6, ↓ts7, ↓tp_x, ↓tp1, ↓tp2, ↓tp3, ↓tp4, ↓tps, mkT_i, mkT_is, cond_true, cond_false, qAv, qAn, qV_vv, q_atT, q_putT, qz4, qz40, qz10, qRd_in, qRd_out, qRd_m, qWr_in, qU_s, qU_n, qV_s, qV_n, zN_neg1, nL0, nL1, nL2, nL3, nL4, nL5, nL6, nL7, nL8, nL9, nL10, nL11, nL12, nL13, nL14, nL20, nL21, nL22, nL23, nL25, nL32, nL33, nL39, nL40, nL43, nL44, nL99, nL100, nL120, nL216, nL217, nL218, nL219, nL220, nL221, nL500, nL999, nL1000, nL10000, nL100000, sh33, zN_lt, zN_le, zN_eq, zN_ge0, zN_lt0, zN_nm, zN_mn, zN_mlt, zN_ltm, zN_lem, zN_mle, zN_m1, zN_m2, zN_addm, zN_ofNat, zN_beq, zN_add, zN_sub, zN_mul, zN_rem, qT_lt, qF_lt, qT_le, qF_le, qT_eq, qF_eq, ↓reduceIte, and_true, true_and, false_and, and_false, not_true_eq_false, not_false_eq_true, decide_true, decide_false, Bool.true_or, Bool.or_true, Bool.false_or, Bool.or_false, cond_true, cond_false, qbi, qb1, qb0, hG, hI]
        · rw [if_neg h8] at hI
          rw [if_pos ⟨h5, h6, fun hh => h8 hh.2⟩]
          simp (disch := omega) only [s_X5_mayLeave_0, s_X5_mayLeave_1, s_X5_mayLeave_2, s_X5_mayLeave_5, s_X5_mayLeave_6, s_X5_mayLeave_9, s_X5_mayLeave_10, s_X5_mayLeave_11, s_X5_mayLeave_14, s_X5_mayLeave_17, s_X5_mayLeave_20, s_X5_mayLeave_21, s_X5_mayLeave_22, s_X5_mayLeave_23, s_X5_mayLeave_24, s_X5_mayLeave_25, s_X5_mayLeave_26, s_X5_mayLeave_27, s_X5_mayLeave_28, s_X5_mayLeave_31, s_X5_mayLeave_34, s_X5_mayLeave_35, s_X5_mayLeave_38, s_X5_mayLeave_39, ↓tg0, ↓tg1, ↓tg2, ↓tg3, ↓tg4, ↓tg5, ↓tg6, ↓tg7, ↓tg8, ↓tg9, ↓tg10, ↓tg11, ↓ts0, ↓ts1, ↓ts2, ↓ts3, ↓ts4, ↓ts5, ↓ts6, ↓ts7, ↓tp_x, ↓tp1, ↓tp2, ↓tp3, ↓tp4, ↓tps, mkT_i, mkT_is, cond_true, cond_false, qAv, qAn, qV_vv, q_atT, q_putT, qz4, qz40, qz10, qRd_in, qRd_out, qRd_m, qWr_in, qU_s, qU_n, qV_s, qV_n, zN_neg1, nL0, nL1, nL2, nL3, nL4, nL5, nL6, nL7, nL8, nL9, nL10, nL11, nL12, nL13, nL14, nL20, nL21, nL22, nL23, nL25, nL32, nL33, nL39, nL40, nL43, nL44, nL99, nL100, nL120, nL216, nL217, nL218, nL219, nL220, nL221, nL500, nL999, nL1000, nL10000, nL100000, sh33, zN_lt, zN_le, zN_eq, zN_ge0, zN_lt0, zN_nm, zN_mn, zN_mlt, zN_ltm, zN_lem, zN_mle, zN_m1, zN_m2, zN_addm, zN_ofNat, zN_beq, zN_add, zN_sub, zN_mul, zN_rem, qT_lt, qF_lt, qT_le, qF_le, qT_eq, qF_eq, ↓reduceIte, and_true, true_and, false_and, and_false, not_true_eq_false, not_false_eq_true, decide_true, decide_false, Bool.true_or, Bool.or_true, Bool.false_or, Bool.or_false, cond_true, cond_false, qbi, qb1, qb0, hG, hI]
      · have h9 : fr = 0 := by omega
        subst h9
        rw [if_pos ⟨h5, h6, fun hh => h7 hh.1⟩]
        simp (disch := omega) only [s_X5_mayLeave_0, s_X5_mayLeave_1, s_X5_mayLeave_2, s_X5_mayLeave_5, s_X5_mayLeave_6, s_X5_mayLeave_9, s_X5_mayLeave_10, s_X5_mayLeave_11, s_X5_mayLeave_14, s_X5_mayLeave_17, s_X5_mayLeave_20, s_X5_mayLeave_21, s_X5_mayLeave_22, s_X5_mayLeave_23, s_X5_mayLeave_24, s_X5_mayLeave_25, s_X5_mayLeave_26, s_X5_mayLeave_27, s_X5_mayLeave_28, s_X5_mayLeave_31, s_X5_mayLeave_34, s_X5_mayLeave_35, s_X5_mayLeave_38, s_X5_mayLeave_39, ↓tg0, ↓tg1, ↓tg2, ↓tg3, ↓tg4, ↓tg5, ↓tg6, ↓tg7, ↓tg8, ↓tg9, ↓tg10, ↓tg11, ↓ts0, ↓ts1, ↓ts2, ↓ts3, ↓ts4, ↓ts5, ↓ts6, ↓ts7, ↓tp_x, ↓tp1, ↓tp2, ↓tp3, ↓tp4, ↓tps, mkT_i, mkT_is, cond_true, cond_false, qAv, qAn, qV_vv, q_atT, q_putT, qz4, qz40, qz10, qRd_in, qRd_out, qRd_m, qWr_in, qU_s, qU_n, qV_s, qV_n, zN_neg1, nL0, nL1, nL2, nL3, nL4, nL5, nL6, nL7, nL8, nL9, nL10, nL11, nL12, nL13, nL14, nL20, nL21, nL22, nL23, nL25, nL32, nL33, nL39, nL40, nL43, nL44, nL99, nL100, nL120, nL216, nL217, nL218, nL219, nL220, nL221, nL500, nL999, nL1000, nL10000, nL100000, sh33, zN_lt, zN_le, zN_eq, zN_ge0, zN_lt0, zN_nm, zN_mn, zN_mlt, zN_ltm, zN_lem, zN_mle, zN_m1, zN_m2, zN_addm, zN_ofNat, zN_beq, zN_add, zN_sub, zN_mul, zN_rem, qT_lt, qF_lt, qT_le, qF_le, qT_eq, qF_eq, ↓reduceIte, and_true, true_and, false_and, and_false, not_true_eq_false, not_false_eq_true, decide_true, decide_false, Bool.true_or, Bool.or_true, Bool.false_or, Bool.or_false, cond_true, cond_false, qbi, qb1, qb0, hG, m_isInCellM]
    · rw [if_neg h6] at hG
      rw [if_neg fun hh => h6 hh.2.1]
      simp (disch := omega) only [s_X5_mayLeave_0, s_X5_mayLeave_1, s_X5_mayLeave_2, s_X5_mayLeave_5, s_X5_mayLeave_6, s_X5_mayLeave_9, s_X5_mayLeave_10, s_X5_mayLeave_11, s_X5_mayLeave_14, s_X5_mayLeave_17, s_X5_mayLeave_20, s_X5_mayLeave_21, s_X5_mayLeave_22, s_X5_mayLeave_23, s_X5_mayLeave_24, s_X5_mayLeave_25, s_X5_mayLeave_26, s_X5_mayLeave_27, s_X5_mayLeave_28, s_X5_mayLeave_31, s_X5_mayLeave_34, s_X5_mayLeave_35, s_X5_mayLeave_38, s_X5_mayLeave_39, ↓tg0, ↓tg1, ↓tg2, ↓tg3, ↓tg4, ↓tg5, ↓tg6, ↓tg7, ↓tg8, ↓tg9, ↓tg10, ↓tg11, ↓ts0, ↓ts1, ↓ts2, ↓ts3, ↓ts4, ↓ts5, ↓ts6, ↓ts7, ↓tp_x, ↓tp1, ↓tp2, ↓tp3, ↓tp4, ↓tps, mkT_i, mkT_is, cond_true, cond_false, qAv, qAn, qV_vv, q_atT, q_putT, qz4, qz40, qz10, qRd_in, qRd_out, qRd_m, qWr_in, qU_s, qU_n, qV_s, qV_n, zN_neg1, nL0, nL1, nL2, nL3, nL4, nL5, nL6, nL7, nL8, nL9, nL10, nL11, nL12, nL13, nL14, nL20, nL21, nL22, nL23, nL25, nL32, nL33, nL39, nL40, nL43, nL44, nL99, nL100, nL120, nL216, nL217, nL218, nL219, nL220, nL221, nL500, nL999, nL1000, nL10000, nL100000, sh33, zN_lt, zN_le, zN_eq, zN_ge0, zN_lt0, zN_nm, zN_mn, zN_mlt, zN_ltm, zN_lem, zN_mle, zN_m1, zN_m2, zN_addm, zN_ofNat, zN_beq, zN_add, zN_sub, zN_mul, zN_rem, qT_lt, qF_lt, qT_le, qF_le, qT_eq, qF_eq, ↓reduceIte, and_true, true_and, false_and, and_false, not_true_eq_false, not_false_eq_true, decide_true, decide_false, Bool.true_or, Bool.or_true, Bool.false_or, Bool.or_false, cond_true, cond_false, qbi, qb1, qb0, hG]
  · rw [if_neg fun hh => h5 hh.1]
    simp (disch := omega) only [s_X5_mayLeave_0, s_X5_mayLeave_1, s_X5_mayLeave_2, s_X5_mayLeave_5, s_X5_mayLeave_6, s_X5_mayLeave_9, s_X5_mayLeave_10, s_X5_mayLeave_11, s_X5_mayLeave_14, s_X5_mayLeave_17, s_X5_mayLeave_20, s_X5_mayLeave_21, s_X5_mayLeave_22, s_X5_mayLeave_23, s_X5_mayLeave_24, s_X5_mayLeave_25, s_X5_mayLeave_26, s_X5_mayLeave_27, s_X5_mayLeave_28, s_X5_mayLeave_31, s_X5_mayLeave_34, s_X5_mayLeave_35, s_X5_mayLeave_38, s_X5_mayLeave_39, ↓tg0, ↓tg1, ↓tg2, ↓tg3, ↓tg4, ↓tg5, ↓tg6, ↓tg7, ↓tg8, ↓tg9, ↓tg10, ↓tg11, ↓ts0, ↓ts1, ↓ts2, ↓ts3, ↓ts4, ↓ts5, ↓ts6, ↓ts7, ↓tp_x, ↓tp1, ↓tp2, ↓tp3, ↓tp4, ↓tps, mkT_i, mkT_is, cond_true, cond_false, qAv, qAn, qV_vv, q_atT, q_putT, qz4, qz40, qz10, qRd_in, qRd_out, qRd_m, qWr_in, qU_s, qU_n, qV_s, qV_n, zN_neg1, nL0, nL1, nL2, nL3, nL4, nL5, nL6, nL7, nL8, nL9, nL10, nL11, nL12, nL13, nL14, nL20, nL21, nL22, nL23, nL25, nL32, nL33, nL39, nL40, nL43, nL44, nL99, nL100, nL120, nL216, nL217, nL218, nL219, nL220, nL221, nL500, nL999, nL1000, nL10000, nL100000, sh33, zN_lt, zN_le, zN_eq, zN_ge0, zN_lt0, zN_nm, zN_mn, zN_mlt, zN_ltm, zN_lem, zN_mle, zN_m1, zN_m2, zN_addm, zN_ofNat, zN_beq, zN_add, zN_sub, zN_mul, zN_rem, qT_lt, qF_lt, qT_le, qF_le, qT_eq, qF_eq, ↓reduceIte, and_true, true_and, false_and, and_false, not_true_eq_false, not_false_eq_true, decide_true, decide_false, Bool.true_or, Bool.or_true, Bool.false_or, Bool.or_false, cond_true, cond_false, qbi, qb1, qb0]
/-- the rows once a walker has left -/
def qLv (Rq : Nat → Nat → Int32) (sq pl fr nr : Nat) (last : Bool) (tq : Int32) (kk : Nat) : Nat → Nat → Int32 :=
  let R1 := va_up (va_up (va_up Rq 11 (qBF (Rq 11) pl fr)) 8 (upd (Rq 8) (sq * 10 + nr) (zN kk))) 7 (upd (Rq 7) sq (zN (nr + 1)))
  bif last then va_up (va_up (va_up (va_up R1 12 (upd (Rq 12) fr (zN 3))) 13 (upd (Rq 13) fr zM)) 14 (upd (Rq 14) fr zM)) 10 (upd (Rq 10) kk tq)
  else va_up (va_up (va_up R1 12 (upd (Rq 12) fr (zN 1))) 13 (upd (Rq 13) fr (zN (sq + 1)))) 14 (upd (Rq 14) fr (zN 0))
theorem m_leave {pl fr nr kk : Nat} (hc : sc 0 = zN Sq) (hS : Sq ≤ 4) (hs : sq < Sq) (hp : pl < 10) (hf : fr ≤ pl) (hn : Rq 7 sq = zN nr) (hl : nr < 10) (hk : Rq 11 pl = zN kk) (hk2 : kk < 10) : pwX so 74 0 [some (.ref bq), some (.int (zN sq)), some (.int (zN pl)), some (.int (zN fr)), none] [] g (mkT bq xq sc Rq w) = some (.inl none, g, (mkT bq xq sc (qLv Rq sq pl fr nr (decide (sq + 1 = Sq)) (sc 2) kk) w)) := by
  have hB := fun (Rz : Nat → Nat → Int32) => @m_bringForward so g bq xq sc Rz w pl fr hp hf
  have hN := @m_noteReader so g bq xq sc (va_up Rq 11 (qBF (Rq 11) pl fr)) w (zN kk) sq (by omega) nr (by rw [qV_n (by decide)]; exact hn) hl
  have h0 : qBF (Rq 11) pl fr fr = zN kk := by unfold qBF; rw [if_pos rfl, hk]
  by_cases h : sq + 1 = Sq
  · subst h
    simp (disch := omega) only [s_X5_leave_0, s_X5_leave_1, s_X5_leave_2, s_X5_leave_3, s_X5_leave_6, s_X5_leave_7, s_X5_leave_10, s_X5_leave_11, s_X5_leave_14, s_X5_leave_16, s_X5_leave_17, s_X5_leave_20, s_X5_leave_21, s_X5_leave_23, s_X5_leave_26, s_X5_leave_27, s_X5_leave_28, s_X5_leave_31, s_X5_leave_34, s_X5_leave_35, s_X5_leave_36, s_X5_leave_39, s_X5_leave_40, s_X5_leave_41, s_X5_leave_42, s_X5_leave_43, s_X5_leave_44, s_X5_leave_47, s_X5_leave_48, s_X5_leave_51, s_X5_leave_53, s_X5_leave_54, s_X5_leave_57, s_X5_leave_60, s_X5_leave_63, s_X5_leave_64, s_X5_leave_65, s_X5_leave_66, s_X5_leave_67, s_X5_leave_68, s_X5_leave_69, s_X5_leave_70, s_X5_leave_73, ↓tg0, ↓tg1, ↓tg2, ↓tg3, ↓tg4, ↓tg5, ↓tg6, ↓tg7, ↓tg8, ↓tg9, ↓tg10, ↓tg11, ↓ts0, ↓ts1, ↓ts2, ↓ts3, ↓ts4, ↓ts5, ↓ts6, ↓ts7, ↓tp_x, ↓tp1, ↓tp2, ↓tp3, ↓tp4, ↓tps, mkT_i, mkT_is, cond_true, cond_false, qAv, qAn, qV_vv, q_atT, q_putT, qz4, qz40, qz10, qRd_in, qRd_out, qRd_m, qWr_in, qU_s, qU_n, qV_s, qV_n, zN_neg1, nL0, nL1, nL2, nL3, nL4, nL5, nL6, nL7, nL8, nL9, nL10, nL11, nL12, nL13, nL14, nL20, nL21, nL22, nL23, nL25, nL32, nL33, nL39, nL40, nL43, nL44, nL99, nL100, nL120, nL216, nL217, nL218, nL219, nL220, nL221, nL500, nL999, nL1000, nL10000, nL100000, sh33, zN_lt, zN_le, zN_eq, zN_ge0, zN_lt0, zN_nm, zN_mn, zN_mlt, zN_ltm, zN_lem, zN_mle, zN_m1, zN_m2, zN_addm, zN_ofNat, zN_beq, zN_add, zN_sub, zN_mul, zN_rem, qT_lt, qF_lt, qT_le, qF_le, qT_eq, qF_eq, ↓reduceIte, and_true, true_and, false_and, and_false, not_true_eq_false, not_false_eq_true, decide_true, decide_false, Bool.true_or, Bool.or_true, Bool.false_or, Bool.or_false, cond_true, cond_false, m_stand, hN, hB, h0, hc, Nat.add_sub_cancel, qLv, decide_true]
  · have h1 : ¬ sq = Sq - 1 := by omega
    simp (disch := omega) only [s_X5_leave_0, s_X5_leave_1, s_X5_leave_2, s_X5_leave_3, s_X5_leave_6, s_X5_leave_7, s_X5_leave_10, s_X5_leave_11, s_X5_leave_14, s_X5_leave_16, s_X5_leave_17, s_X5_leave_20, s_X5_leave_21, s_X5_leave_23, s_X5_leave_26, s_X5_leave_27, s_X5_leave_28, s_X5_leave_31, s_X5_leave_34, s_X5_leave_35, s_X5_leave_36, s_X5_leave_39, s_X5_leave_40, s_X5_leave_41, s_X5_leave_42, s_X5_leave_43, s_X5_leave_44, s_X5_leave_47, s_X5_leave_48, s_X5_leave_51, s_X5_leave_53, s_X5_leave_54, s_X5_leave_57, s_X5_leave_60, s_X5_leave_63, s_X5_leave_64, s_X5_leave_65, s_X5_leave_66, s_X5_leave_67, s_X5_leave_68, s_X5_leave_69, s_X5_leave_70, s_X5_leave_73, ↓tg0, ↓tg1, ↓tg2, ↓tg3, ↓tg4, ↓tg5, ↓tg6, ↓tg7, ↓tg8, ↓tg9, ↓tg10, ↓tg11, ↓ts0, ↓ts1, ↓ts2, ↓ts3, ↓ts4, ↓ts5, ↓ts6, ↓ts7, ↓tp_x, ↓tp1, ↓tp2, ↓tp3, ↓tp4, ↓tps, mkT_i, mkT_is, cond_true, cond_false, qAv, qAn, qV_vv, q_atT, q_putT, qz4, qz40, qz10, qRd_in, qRd_out, qRd_m, qWr_in, qU_s, qU_n, qV_s, qV_n, zN_neg1, nL0, nL1, nL2, nL3, nL4, nL5, nL6, nL7, nL8, nL9, nL10, nL11, nL12, nL13, nL14, nL20, nL21, nL22, nL23, nL25, nL32, nL33, nL39, nL40, nL43, nL44, nL99, nL100, nL120, nL216, nL217, nL218, nL219, nL220, nL221, nL500, nL999, nL1000, nL10000, nL100000, sh33, zN_lt, zN_le, zN_eq, zN_ge0, zN_lt0, zN_nm, zN_mn, zN_mlt, zN_ltm, zN_lem, zN_mle, zN_m1, zN_m2, zN_addm, zN_ofNat, zN_beq, zN_add, zN_sub, zN_mul, zN_rem, qT_lt, qF_lt, qT_le, qF_le, qT_eq, qF_eq, ↓reduceIte, and_true, true_and, false_and, and_false, not_true_eq_false, not_false_eq_true, decide_true, decide_false, Bool.true_or, Bool.or_true, Bool.false_or, Bool.or_false, cond_true, cond_false, m_stand, hN, hB, h0, hc, qLv, h, decide_false]
theorem m_moveOn15 {fr en pm : Nat} (he : en ≤ 10) {o6 : Option Value} : ∀ (es : List (Nat × Nat)) (Rz : Nat → Nat → Int32) (lm pp : Nat) (oz : Option Value), lm ≤ 20 → cDown lm es → pp + es.length = en → (∀ jq (hj : jq < es.length), Rz 14 (pp + jq) = zN (es[jq]).1) → ∃ fz : Nat → Int32, (∀ jq (hj : jq < es.length) (hj2 : jq < (mvC lm es).length), fz (pp + jq) = zN ((mvC lm es)[jq]).1) ∧ (∀ jq, jq < pp ∨ en ≤ jq → fz jq = Rz 14 jq) ∧ pwX so 79 15 [some (.ref bq), some (.int pq), some (.int rq), some (.int (zN en)), some (.int (zN lm - zN 1)), some (.int (zN pp)), oz] [] g (mkT bq xq sc Rz w) = some (.inl none, g, (mkT bq xq sc (va_up Rz 14 fz) w)) := by
  intro es
  induction es with
  | nil =>
    intro Rz lm pp oz hl hd hp hR
    refine ⟨Rz 14, fun jq hj => absurd hj (Nat.not_lt_zero _), fun _ _ => rfl, ?_⟩
    have h1 : pp = en := by simpa using hp
    subst h1
    have h2 : va_up Rz 14 (Rz 14) = Rz := funext fun jq => by unfold va_up; split <;> simp_all
    simp (disch := omega) only [s_X5_moveOn_0, s_X5_moveOn_1, s_X5_moveOn_4, s_X5_moveOn_5, s_X5_moveOn_8, s_X5_moveOn_9, s_X5_moveOn_10, s_X5_moveOn_12, s_X5_moveOn_13, s_X5_moveOn_15, s_X5_moveOn_17, s_X5_moveOn_18, s_X5_moveOn_21, s_X5_moveOn_22, s_X5_moveOn_25, s_X5_moveOn_27, s_X5_moveOn_30, s_X5_moveOn_32, s_X5_moveOn_34, s_X5_moveOn_36, s_X5_moveOn_39, s_X5_moveOn_42, s_X5_moveOn_43, s_X5_moveOn_46, s_X5_moveOn_48, s_X5_moveOn_50, s_X5_moveOn_53, s_X5_moveOn_55, s_X5_moveOn_56, s_X5_moveOn_57, s_X5_moveOn_59, s_X5_moveOn_62, s_X5_moveOn_65, ↓tg0, ↓tg1, ↓tg2, ↓tg3, ↓tg4, ↓tg5, ↓tg6, ↓tg7, ↓tg8, ↓tg9, ↓tg10, ↓tg11, ↓ts0, ↓ts1, ↓ts2, ↓ts3, ↓ts4, ↓ts5, ↓ts6, ↓ts7, ↓tp_x, ↓tp1, ↓tp2, ↓tp3, ↓tp4, ↓tps, mkT_i, mkT_is, cond_true, cond_false, qAv, qAn, qV_vv, q_atT, q_putT, qz4, qz40, qz10, qRd_in, qRd_out, qRd_m, qWr_in, qU_s, qU_n, qV_s, qV_n, zN_neg1, nL0, nL1, nL2, nL3, nL4, nL5, nL6, nL7, nL8, nL9, nL10, nL11, nL12, nL13, nL14, nL20, nL21, nL22, nL23, nL25, nL32, nL33, nL39, nL40, nL43, nL44, nL99, nL100, nL120, nL216, nL217, nL218, nL219, nL220, nL221, nL500, nL999, nL1000, nL10000, nL100000, sh33, zN_lt, zN_le, zN_eq, zN_ge0, zN_lt0, zN_nm, zN_mn, zN_mlt, zN_ltm, zN_lem, zN_mle, zN_m1, zN_m2, zN_addm, zN_ofNat, zN_beq, zN_add, zN_mul, zN_rem, qT_lt, qF_lt, qT_le, qF_le, qT_eq, qF_eq, ↓reduceIte, and_true, true_and, false_and, and_false, not_true_eq_false, not_false_eq_true, decide_true, decide_false, Bool.true_or, Bool.or_true, Bool.false_or, Bool.or_false, cond_true, cond_false, zN_le1, h2]
  | cons e es ih =>
    intro Rz lm pp oz hl hd hp hR
    obtain ⟨hd1, hd2⟩ := hd
    have h0 := hR 0 (Nat.zero_lt_succ _)
    have hlen : pp + 1 + es.length = en := by simp only [List.length_cons] at hp; omega
    simp only [Nat.add_zero, List.getElem_cons_zero] at h0
    have hR1 : ∀ jq (hj : jq < es.length), Rz 14 (pp + 1 + jq) = zN (es[jq]).1 := fun jq hj => by
      have := hR (jq + 1) (by simp only [List.length_cons]; omega)
      rw [show pp + 1 + jq = pp + (jq + 1) by omega]; exact this
    rw [s_X5_moveOn_15]
    by_cases h5 : e.1 + 1 < lm
    · obtain ⟨fz, i1, i2, i3⟩ := ih (va_up Rz 14 (upd (Rz 14) pp (zN (e.1 + 1)))) (e.1 + 1) (pp + 1) (some (.int (zN (e.1 + 1)))) (by omega) (by
        cases es with
        | nil => trivial
        | cons e2 es => exact ⟨by have := hd2.1; omega, hd2.2⟩) hlen (fun jq hj => by rw [qV_s, qU_n (by omega)]; exact hR1 jq hj)
      refine ⟨fz, ?_, ?_, ?_⟩
      · intro jq hj hj2
        unfold mvC
        simp only [h5, if_true]
        cases jq with
        | zero => simp only [Nat.add_zero, List.getElem_cons_zero]; rw [i2 pp (Or.inl (by omega)), qV_s, qU_s]
        | succ jq =>
          simp only [List.getElem_cons_succ]
          rw [show pp + (jq + 1) = pp + 1 + jq by omega]
          refine i1 jq (by simp only [List.length_cons] at hj; omega) ?_
      · intro jq hj
        rw [i2 jq (by omega), qV_s, qU_n (by omega)]
      · rw [qV_vv] at i3
        simp (disch := omega) only [s_X5_moveOn_0, s_X5_moveOn_1, s_X5_moveOn_4, s_X5_moveOn_5, s_X5_moveOn_8, s_X5_moveOn_9, s_X5_moveOn_10, s_X5_moveOn_12, s_X5_moveOn_13, s_X5_moveOn_17, s_X5_moveOn_18, s_X5_moveOn_21, s_X5_moveOn_22, s_X5_moveOn_25, s_X5_moveOn_27, s_X5_moveOn_30, s_X5_moveOn_32, s_X5_moveOn_34, s_X5_moveOn_36, s_X5_moveOn_39, s_X5_moveOn_42, s_X5_moveOn_43, s_X5_moveOn_46, s_X5_moveOn_48, s_X5_moveOn_50, s_X5_moveOn_53, s_X5_moveOn_55, s_X5_moveOn_56, s_X5_moveOn_57, s_X5_moveOn_59, s_X5_moveOn_62, s_X5_moveOn_65, ↓tg0, ↓tg1, ↓tg2, ↓tg3, ↓tg4, ↓tg5, ↓tg6, ↓tg7, ↓tg8, ↓tg9, ↓tg10, ↓tg11, ↓ts0, ↓ts1, ↓ts2, ↓ts3, ↓ts4, ↓ts5, ↓ts6, ↓ts7, ↓tp_x, ↓tp1, ↓tp2, ↓tp3, ↓tp4, ↓tps, mkT_i, mkT_is, cond_true, cond_false, qAv, qAn, qV_vv, q_atT, q_putT, qz4, qz40, qz10, qRd_in, qRd_out, qRd_m, qWr_in, qU_s, qU_n, qV_s, qV_n, zN_neg1, nL0, nL1, nL2, nL3, nL4, nL5, nL6, nL7, nL8, nL9, nL10, nL11, nL12, nL13, nL14, nL20, nL21, nL22, nL23, nL25, nL32, nL33, nL39, nL40, nL43, nL44, nL99, nL100, nL120, nL216, nL217, nL218, nL219, nL220, nL221, nL500, nL999, nL1000, nL10000, nL100000, sh33, zN_lt, zN_le, zN_eq, zN_ge0, zN_lt0, zN_nm, zN_mn, zN_mlt, zN_ltm, zN_lem, zN_mle, zN_m1, zN_m2, zN_addm, zN_ofNat, zN_beq, zN_add, zN_mul, zN_rem, qT_lt, qF_lt, qT_le, qF_le, qT_eq, qF_eq, ↓reduceIte, and_true, true_and, false_and, and_false, not_true_eq_false, not_false_eq_true, decide_true, decide_false, Bool.true_or, Bool.or_true, Bool.false_or, Bool.or_false, cond_true, cond_false, zN_le1, h0]
        exact i3
    · obtain ⟨fz, i1, i2, i3⟩ := ih Rz e.1 (pp + 1) (some (.int (zN e.1))) (by omega) hd2 hlen hR1
      refine ⟨fz, ?_, ?_, ?_⟩
      · intro jq hj hj2
        unfold mvC
        simp only [h5, if_false]
        cases jq with
        | zero => simp only [Nat.add_zero, List.getElem_cons_zero]; rw [i2 pp (Or.inl (by omega)), h0]
        | succ jq =>
          simp only [List.getElem_cons_succ]
          rw [show pp + (jq + 1) = pp + 1 + jq by omega]
          refine i1 jq (by simp only [List.length_cons] at hj; omega) ?_
      · intro jq hj
        rw [i2 jq (by omega)]
      · simp (disch := omega) only [s_X5_moveOn_0, s_X5_moveOn_1, s_X5_moveOn_4, s_X5_moveOn_5, s_X5_moveOn_8, s_X5_moveOn_9, s_X5_moveOn_10, s_X5_moveOn_12, s_X5_moveOn_13, s_X5_moveOn_17, s_X5_moveOn_18, s_X5_moveOn_21, s_X5_moveOn_22, s_X5_moveOn_25, s_X5_moveOn_27, s_X5_moveOn_30, s_X5_moveOn_32, s_X5_moveOn_34, s_X5_moveOn_36, s_X5_moveOn_39, s_X5_moveOn_42, s_X5_moveOn_43, s_X5_moveOn_46, s_X5_moveOn_48, s_X5_moveOn_50, s_X5_moveOn_53, s_X5_moveOn_55, s_X5_moveOn_56, s_X5_moveOn_57, s_X5_moveOn_59, s_X5_moveOn_62, s_X5_moveOn_65, ↓tg0, ↓tg1, ↓tg2, ↓tg3, ↓tg4, ↓tg5, ↓tg6, ↓tg7, ↓tg8, ↓tg9, ↓tg10, ↓tg11, ↓ts0, ↓ts1, ↓ts2, ↓ts3, ↓ts4, ↓ts5, ↓ts6, ↓ts7, ↓tp_x, ↓tp1, ↓tp2, ↓tp3, ↓tp4, ↓tps, mkT_i, mkT_is, cond_true, cond_false, qAv, qAn, qV_vv, q_atT, q_putT, qz4, qz40, qz10, qRd_in, qRd_out, qRd_m, qWr_in, qU_s, qU_n, qV_s, qV_n, zN_neg1, nL0, nL1, nL2, nL3, nL4, nL5, nL6, nL7, nL8, nL9, nL10, nL11, nL12, nL13, nL14, nL20, nL21, nL22, nL23, nL25, nL32, nL33, nL39, nL40, nL43, nL44, nL99, nL100, nL120, nL216, nL217, nL218, nL219, nL220, nL221, nL500, nL999, nL1000, nL10000, nL100000, sh33, zN_lt, zN_le, zN_eq, zN_ge0, zN_lt0, zN_nm, zN_mn, zN_mlt, zN_ltm, zN_lem, zN_mle, zN_m1, zN_m2, zN_addm, zN_ofNat, zN_beq, zN_add, zN_mul, zN_rem, qT_lt, qF_lt, qT_le, qF_le, qT_eq, qF_eq, ↓reduceIte, and_true, true_and, false_and, and_false, not_true_eq_false, not_false_eq_true, decide_true, decide_false, Bool.true_or, Bool.or_true, Bool.false_or, Bool.or_false, cond_true, cond_false, zN_le1, h0]
        exact i3
end QA

/-! the pure part: what would be: many ticks of the class -/
def sT (Aq : TA) (tq : Int32) : TA := (tL Aq, tC Aq, tN Aq, tE Aq, tK Aq, tq, tX Aq)
section QA
variable {so : Nat → Nat} {g : pwG} {bq : Nat} {xq : Int64} {sc : Nat → Int32} {Rq : Nat → Nat → Int32} {w : pwW} {Aq Bq : TA} {nq : Nat} {pq : Int32}
theorem ticks_all : ∀ nq (Aq : TA), invT Aq → (tL Aq 0).length = tN Aq 1 → ∀ tq, sT (tTicks nq Aq) tq = sT Aq tq := by
  intro nq
  induction nq with
  | zero => intro Aq _ _ tq; rfl
  | succ nq ih =>
    intro Aq hI hh tq
    show sT (tTicks nq (tTick Aq)) tq = _
    rw [tick_all hI hh, ih (tTime Aq) (inv_Time hI) hh]; rfl
theorem c_run2 (hn : nq < 2147483648) : ∀ dq iq (Aq : TA) (xq : Int64) (sc : Nat → Int32) (Rq : Nat → Nat → Int32), iq + dq = nq → invT Aq → repT Aq xq sc Rq → ∃ (Bq : TA) (x1 : Int64) (sc1 : Nat → Int32) (R1 : Nat → Nat → Int32), invT Bq ∧ repT Bq x1 sc1 R1 ∧ (∀ tq, sT Bq tq = sT (tTicks dq Aq) tq) ∧ pwX so 70 2 [some (.ref bq), some (.int (zN nq)), some (.int (zN iq))] [] g (mkT bq xq sc Rq w) = some (.inl none, g, (mkT bq x1 sc1 R1 w)) := by
  intro dq
  induction dq with
  | zero =>
    intro iq Aq xq sc Rq h1 hI hT
    have h1 : iq = nq := by omega
    subst h1
    refine ⟨Aq, xq, sc, Rq, hI, hT, fun _ => rfl, ?_⟩
    simp (disch := omega) only [s_X5_runWhileAnyoneWalks_0, s_X5_runWhileAnyoneWalks_1, s_X5_runWhileAnyoneWalks_2, s_X5_runWhileAnyoneWalks_3, s_X5_runWhileAnyoneWalks_4, s_X5_runWhileAnyoneWalks_7, s_X5_runWhileAnyoneWalks_8, s_X5_runWhileAnyoneWalks_11, s_X5_runWhileAnyoneWalks_14, s_X5_runWhileAnyoneWalks_15, s_X5_runWhileAnyoneWalks_18, s_X5_runWhileAnyoneWalks_21, s_X5_runWhileAnyoneWalks_24, ↓tg0, ↓tg1, ↓tg2, ↓tg3, ↓tg4, ↓tg5, ↓tg6, ↓tg7, ↓tg8, ↓tg9, ↓tg10, ↓tg11, ↓ts0, ↓ts1, ↓ts2, ↓ts3, ↓ts4, ↓ts5, ↓ts6, ↓ts7, ↓tp_x, ↓tp1, ↓tp2, ↓tp3, ↓tp4, ↓tps, mkT_i, mkT_is, cond_true, cond_false, qAv, qAn, qV_vv, q_atT, q_putT, qz4, qz40, qz10, qRd_in, qRd_out, qRd_m, qWr_in, qU_s, qU_n, qV_s, qV_n, zN_neg1, nL0, nL1, nL2, nL3, nL4, nL5, nL6, nL7, nL8, nL9, nL10, nL11, nL12, nL13, nL14, nL20, nL21, nL22, nL23, nL25, nL32, nL33, nL39, nL40, nL43, nL44, nL99, nL100, nL120, nL216, nL217, nL218, nL219, nL220, nL221, nL500, nL999, nL1000, nL10000, nL100000, sh33, zN_lt, zN_le, zN_eq, zN_ge0, zN_lt0, zN_nm, zN_mn, zN_mlt, zN_ltm, zN_lem, zN_mle, zN_m1, zN_m2, zN_addm, zN_ofNat, zN_beq, zN_add, zN_sub, zN_mul, zN_rem, qT_lt, qF_lt, qT_le, qF_le, qT_eq, qF_eq, ↓reduceIte, and_true, true_and, false_and, and_false, not_true_eq_false, not_false_eq_true, decide_true, decide_false, Bool.true_or, Bool.or_true, Bool.false_or, Bool.or_false, cond_true, cond_false]
  | succ dq ih =>
    intro iq Aq xq sc Rq h1 hI hT
    have a0 := @c_allHaveCome so g bq xq sc Rq w Aq hI hT
    rw [s_X5_runWhileAnyoneWalks_2]
    by_cases hh : (tL Aq 0).length = tN Aq 1
    · rw [if_pos hh] at a0
      refine ⟨Aq, xq, sc, Rq, hI, hT, fun tq => (ticks_all (dq + 1) Aq hI hh tq).symm, ?_⟩
      simp (disch := omega) only [s_X5_runWhileAnyoneWalks_0, s_X5_runWhileAnyoneWalks_1, s_X5_runWhileAnyoneWalks_3, s_X5_runWhileAnyoneWalks_4, s_X5_runWhileAnyoneWalks_7, s_X5_runWhileAnyoneWalks_8, s_X5_runWhileAnyoneWalks_11, s_X5_runWhileAnyoneWalks_14, s_X5_runWhileAnyoneWalks_15, s_X5_runWhileAnyoneWalks_18, s_X5_runWhileAnyoneWalks_21, s_X5_runWhileAnyoneWalks_24, ↓tg0, ↓tg1, ↓tg2, ↓tg3, ↓tg4, ↓tg5, ↓tg6, ↓tg7, ↓tg8, ↓tg9, ↓tg10, ↓tg11, ↓ts0, ↓ts1, ↓ts2, ↓ts3, ↓ts4, ↓ts5, ↓ts6, ↓ts7, ↓tp_x, ↓tp1, ↓tp2, ↓tp3, ↓tp4, ↓tps, mkT_i, mkT_is, cond_true, cond_false, qAv, qAn, qV_vv, q_atT, q_putT, qz4, qz40, qz10, qRd_in, qRd_out, qRd_m, qWr_in, qU_s, qU_n, qV_s, qV_n, zN_neg1, nL0, nL1, nL2, nL3, nL4, nL5, nL6, nL7, nL8, nL9, nL10, nL11, nL12, nL13, nL14, nL20, nL21, nL22, nL23, nL25, nL32, nL33, nL39, nL40, nL43, nL44, nL99, nL100, nL120, nL216, nL217, nL218, nL219, nL220, nL221, nL500, nL999, nL1000, nL10000, nL100000, sh33, zN_lt, zN_le, zN_eq, zN_ge0, zN_lt0, zN_nm, zN_mn, zN_mlt, zN_ltm, zN_lem, zN_mle, zN_m1, zN_m2, zN_addm, zN_ofNat, zN_beq, zN_add, zN_sub, zN_mul, zN_rem, qT_lt, qF_lt, qT_le, qF_le, qT_eq, qF_eq, ↓reduceIte, and_true, true_and, false_and, and_false, not_true_eq_false, not_false_eq_true, decide_true, decide_false, Bool.true_or, Bool.or_true, Bool.false_or, Bool.or_false, cond_true, cond_false, a0]
    · rw [if_neg hh] at a0
      obtain ⟨x1, sc1, R1, a1, a2⟩ := @c_tick so g bq xq sc Rq w Aq hI hT
      obtain ⟨B3, x3, sc3, R3, i3, b1, b2, b3⟩ := ih (iq + 1) (tTick Aq) x1 sc1 R1 (by omega) (inv_Tick hI) a1
      refine ⟨B3, x3, sc3, R3, i3, b1, b2, ?_⟩
      simp (disch := omega) only [s_X5_runWhileAnyoneWalks_0, s_X5_runWhileAnyoneWalks_1, s_X5_runWhileAnyoneWalks_3, s_X5_runWhileAnyoneWalks_4, s_X5_runWhileAnyoneWalks_7, s_X5_runWhileAnyoneWalks_8, s_X5_runWhileAnyoneWalks_11, s_X5_runWhileAnyoneWalks_14, s_X5_runWhileAnyoneWalks_15, s_X5_runWhileAnyoneWalks_18, s_X5_runWhileAnyoneWalks_21, s_X5_runWhileAnyoneWalks_24, ↓tg0, ↓tg1, ↓tg2, ↓tg3, ↓tg4, ↓tg5, ↓tg6, ↓tg7, ↓tg8, ↓tg9, ↓tg10, ↓tg11, ↓ts0, ↓ts1, ↓ts2, ↓ts3, ↓ts4, ↓ts5, ↓ts6, ↓ts7, ↓tp_x, ↓tp1, ↓tp2, ↓tp3, ↓tp4, ↓tps, mkT_i, mkT_is, cond_true, cond_false, qAv, qAn, qV_vv, q_atT, q_putT, qz4, qz40, qz10, qRd_in, qRd_out, qRd_m, qWr_in, qU_s, qU_n, qV_s, qV_n, zN_neg1, nL0, nL1, nL2, nL3, nL4, nL5, nL6, nL7, nL8, nL9, nL10, nL11, nL12, nL13, nL14, nL20, nL21, nL22, nL23, nL25, nL32, nL33, nL39, nL40, nL43, nL44, nL99, nL100, nL120, nL216, nL217, nL218, nL219, nL220, nL221, nL500, nL999, nL1000, nL10000, nL100000, sh33, zN_lt, zN_le, zN_eq, zN_ge0, zN_lt0, zN_nm, zN_mn, zN_mlt, zN_ltm, zN_lem, zN_mle, zN_m1, zN_m2, zN_addm, zN_ofNat, zN_beq, zN_add, zN_sub, zN_mul, zN_rem, qT_lt, qF_lt, qT_le, qF_le, qT_eq, qF_eq, ↓reduceIte, and_true, true_and, false_and, and_false, not_true_eq_false, not_false_eq_true, decide_true, decide_false, Bool.true_or, Bool.or_true, Bool.false_or, Bool.or_false, cond_true, cond_false, a0, a2]
      exact b3
theorem c_run (hn : nq < 2147483648) (hI : invT Aq) (hT : repT Aq xq sc Rq) : ∃ (Bq : TA) (x1 : Int64) (sc1 : Nat → Int32) (R1 : Nat → Nat → Int32), invT Bq ∧ repT Bq x1 sc1 R1 ∧ (∀ tq, sT Bq tq = sT (tTicks nq Aq) tq) ∧ pwX so 70 0 [some (.ref bq), some (.int (zN nq)), none] [] g (mkT bq xq sc Rq w) = some (.inl none, g, (mkT bq x1 sc1 R1 w)) := by
  obtain ⟨B3, x3, sc3, R3, i3, b1, b2, b3⟩ := @c_run2 so g bq w nq hn nq 0 Aq xq sc Rq (by omega) hI hT
  refine ⟨B3, x3, sc3, R3, i3, b1, b2, ?_⟩
  simp only [s_X5_runWhileAnyoneWalks_0, s_X5_runWhileAnyoneWalks_1, nL0]
  exact b3
theorem c_until2 : ∀ dq iq (Aq : TA) (xq : Int64) (sc : Nat → Int32) (Rq : Nat → Nat → Int32), iq + dq = 999 → invT Aq → repT Aq xq sc Rq → ∃ (x1 : Int64) (sc1 : Nat → Int32) (R1 : Nat → Nat → Int32), pwX so 69 2 [some (.ref bq), some (.int (zN iq))] [] g (mkT bq xq sc Rq w) = some (.inl (some (.int (tIn (dq + 1) iq Aq))), g, (mkT bq x1 sc1 R1 w)) := by
  intro dq
  induction dq with
  | zero =>
    intro iq Aq xq sc Rq h1 hI hT
    have h1 : iq = 999 := by omega
    subst h1
    have a0 := @c_allHaveCome so g bq xq sc Rq w Aq hI hT
    refine ⟨xq, sc, Rq, ?_⟩
    by_cases hh : (tL Aq 0).length = tN Aq 1
    · rw [if_pos hh] at a0
      simp (disch := omega) only [s_X5_ticksUntilAllIn_0, s_X5_ticksUntilAllIn_1, s_X5_ticksUntilAllIn_2, s_X5_ticksUntilAllIn_3, s_X5_ticksUntilAllIn_6, s_X5_ticksUntilAllIn_9, s_X5_ticksUntilAllIn_10, s_X5_ticksUntilAllIn_13, s_X5_ticksUntilAllIn_16, s_X5_ticksUntilAllIn_17, s_X5_ticksUntilAllIn_18, s_X5_ticksUntilAllIn_19, s_X5_ticksUntilAllIn_22, s_X5_ticksUntilAllIn_25, s_X5_ticksUntilAllIn_28, s_X5_ticksUntilAllIn_29, s_X5_ticksUntilAllIn_32, s_X5_ticksUntilAllIn_35, s_X5_ticksUntilAllIn_38, s_X5_ticksUntilAllIn_41, s_X5_ticksUntilAllIn_42, ↓tg0, ↓tg1, ↓tg2, ↓tg3, ↓tg4, ↓tg5, ↓tg6, ↓tg7, ↓tg8, ↓tg9, ↓tg10, ↓tg11, ↓ts0, ↓ts1, ↓ts2, ↓ts3, ↓ts4, ↓ts5, ↓ts6, ↓ts7, ↓tp_x, ↓tp1, ↓tp2, ↓tp3, ↓tp4, ↓tps, mkT_i, mkT_is, cond_true, cond_false, qAv, qAn, qV_vv, q_atT, q_putT, qz4, qz40, qz10, qRd_in, qRd_out, qRd_m, qWr_in, qU_s, qU_n, qV_s, qV_n, zN_neg1, nL0, nL1, nL2, nL3, nL4, nL5, nL6, nL7, nL8, nL9, nL10, nL11, nL12, nL13, nL14, nL20, nL21, nL22, nL23, nL25, nL32, nL33, nL39, nL40, nL43, nL44, nL99, nL100, nL120, nL216, nL217, nL218, nL219, nL220, nL221, nL500, nL999, nL1000, nL10000, nL100000, sh33, zN_lt, zN_le, zN_eq, zN_ge0, zN_lt0, zN_nm, zN_mn, zN_mlt, zN_ltm, zN_lem, zN_mle, zN_m1, zN_m2, zN_addm, zN_ofNat, zN_beq, zN_add, zN_sub, zN_mul, zN_rem, qT_lt, qF_lt, qT_le, qF_le, qT_eq, qF_eq, ↓reduceIte, and_true, true_and, false_and, and_false, not_true_eq_false, not_false_eq_true, decide_true, decide_false, Bool.true_or, Bool.or_true, Bool.false_or, Bool.or_false, cond_true, cond_false, a0, tIn, hh]
    · rw [if_neg hh] at a0
      simp (disch := omega) only [s_X5_ticksUntilAllIn_0, s_X5_ticksUntilAllIn_1, s_X5_ticksUntilAllIn_2, s_X5_ticksUntilAllIn_3, s_X5_ticksUntilAllIn_6, s_X5_ticksUntilAllIn_9, s_X5_ticksUntilAllIn_10, s_X5_ticksUntilAllIn_13, s_X5_ticksUntilAllIn_16, s_X5_ticksUntilAllIn_17, s_X5_ticksUntilAllIn_18, s_X5_ticksUntilAllIn_19, s_X5_ticksUntilAllIn_22, s_X5_ticksUntilAllIn_25, s_X5_ticksUntilAllIn_28, s_X5_ticksUntilAllIn_29, s_X5_ticksUntilAllIn_32, s_X5_ticksUntilAllIn_35, s_X5_ticksUntilAllIn_38, s_X5_ticksUntilAllIn_41, s_X5_ticksUntilAllIn_42, ↓tg0, ↓tg1, ↓tg2, ↓tg3, ↓tg4, ↓tg5, ↓tg6, ↓tg7, ↓tg8, ↓tg9, ↓tg10, ↓tg11, ↓ts0, ↓ts1, ↓ts2, ↓ts3, ↓ts4, ↓ts5, ↓ts6, ↓ts7, ↓tp_x, ↓tp1, ↓tp2, ↓tp3, ↓tp4, ↓tps, mkT_i, mkT_is, cond_true, cond_false, qAv, qAn, qV_vv, q_atT, q_putT, qz4, qz40, qz10, qRd_in, qRd_out, qRd_m, qWr_in, qU_s, qU_n, qV_s, qV_n, zN_neg1, nL0, nL1, nL2, nL3, nL4, nL5, nL6, nL7, nL8, nL9, nL10, nL11, nL12, nL13, nL14, nL20, nL21, nL22, nL23, nL25, nL32, nL33, nL39, nL40, nL43, nL44, nL99, nL100, nL120, nL216, nL217, nL218, nL219, nL220, nL221, nL500, nL999, nL1000, nL10000, nL100000, sh33, zN_lt, zN_le, zN_eq, zN_ge0, zN_lt0, zN_nm, zN_mn, zN_mlt, zN_ltm, zN_lem, zN_mle, zN_m1, zN_m2, zN_addm, zN_ofNat, zN_beq, zN_add, zN_sub, zN_mul, zN_rem, qT_lt, qF_lt, qT_le, qF_le, qT_eq, qF_eq, ↓reduceIte, and_true, true_and, false_and, and_false, not_true_eq_false, not_false_eq_true, decide_true, decide_false, Bool.true_or, Bool.or_true, Bool.false_or, Bool.or_false, cond_true, cond_false, a0, tIn, hh]
  | succ dq ih =>
    intro iq Aq xq sc Rq h1 hI hT
    have a0 := @c_allHaveCome so g bq xq sc Rq w Aq hI hT
    rw [s_X5_ticksUntilAllIn_2]
    by_cases hh : (tL Aq 0).length = tN Aq 1
    · rw [if_pos hh] at a0
      refine ⟨xq, sc, Rq, ?_⟩
      rw [show tIn (dq + 1 + 1) iq Aq = zN iq from if_pos hh]
      simp (disch := omega) only [s_X5_ticksUntilAllIn_0, s_X5_ticksUntilAllIn_1, s_X5_ticksUntilAllIn_3, s_X5_ticksUntilAllIn_6, s_X5_ticksUntilAllIn_9, s_X5_ticksUntilAllIn_10, s_X5_ticksUntilAllIn_13, s_X5_ticksUntilAllIn_16, s_X5_ticksUntilAllIn_17, s_X5_ticksUntilAllIn_18, s_X5_ticksUntilAllIn_19, s_X5_ticksUntilAllIn_22, s_X5_ticksUntilAllIn_25, s_X5_ticksUntilAllIn_28, s_X5_ticksUntilAllIn_29, s_X5_ticksUntilAllIn_32, s_X5_ticksUntilAllIn_35, s_X5_ticksUntilAllIn_38, s_X5_ticksUntilAllIn_41, s_X5_ticksUntilAllIn_42, ↓tg0, ↓tg1, ↓tg2, ↓tg3, ↓tg4, ↓tg5, ↓tg6, ↓tg7, ↓tg8, ↓tg9, ↓tg10, ↓tg11, ↓ts0, ↓ts1, ↓ts2, ↓ts3, ↓ts4, ↓ts5, ↓ts6, ↓ts7, ↓tp_x, ↓tp1, ↓tp2, ↓tp3, ↓tp4, ↓tps, mkT_i, mkT_is, cond_true, cond_false, qAv, qAn, qV_vv, q_atT, q_putT, qz4, qz40, qz10, qRd_in, qRd_out, qRd_m, qWr_in, qU_s, qU_n, qV_s, qV_n, zN_neg1, nL0, nL1, nL2, nL3, nL4, nL5, nL6, nL7, nL8, nL9, nL10, nL11, nL12, nL13, nL14, nL20, nL21, nL22, nL23, nL25, nL32, nL33, nL39, nL40, nL43, nL44, nL99, nL100, nL120, nL216, nL217, nL218, nL219, nL220, nL221, nL500, nL999, nL1000, nL10000, nL100000, sh33, zN_lt, zN_le, zN_eq, zN_ge0, zN_lt0, zN_nm, zN_mn, zN_mlt, zN_ltm, zN_lem, zN_mle, zN_m1, zN_m2, zN_addm, zN_ofNat, zN_beq, zN_add, zN_sub, zN_mul, zN_rem, qT_lt, qF_lt, qT_le, qF_le, qT_eq, qF_eq, ↓reduceIte, and_true, true_and, false_and, and_false, not_true_eq_false, not_false_eq_true, decide_true, decide_false, Bool.true_or, Bool.or_true, Bool.false_or, Bool.or_false, cond_true, cond_false, a0]
    · rw [if_neg hh] at a0
      obtain ⟨x1, sc1, R1, a1, a2⟩ := @c_tick so g bq xq sc Rq w Aq hI hT
      obtain ⟨x3, sc3, R3, b3⟩ := ih (iq + 1) (tTick Aq) x1 sc1 R1 (by omega) (inv_Tick hI) a1
      refine ⟨x3, sc3, R3, ?_⟩
      rw [show tIn (dq + 1 + 1) iq Aq = tIn (dq + 1) (iq + 1) (tTick Aq) from if_neg hh]
      simp (disch := omega) only [s_X5_ticksUntilAllIn_0, s_X5_ticksUntilAllIn_1, s_X5_ticksUntilAllIn_3, s_X5_ticksUntilAllIn_6, s_X5_ticksUntilAllIn_9, s_X5_ticksUntilAllIn_10, s_X5_ticksUntilAllIn_13, s_X5_ticksUntilAllIn_16, s_X5_ticksUntilAllIn_17, s_X5_ticksUntilAllIn_18, s_X5_ticksUntilAllIn_19, s_X5_ticksUntilAllIn_22, s_X5_ticksUntilAllIn_25, s_X5_ticksUntilAllIn_28, s_X5_ticksUntilAllIn_29, s_X5_ticksUntilAllIn_32, s_X5_ticksUntilAllIn_35, s_X5_ticksUntilAllIn_38, s_X5_ticksUntilAllIn_41, s_X5_ticksUntilAllIn_42, ↓tg0, ↓tg1, ↓tg2, ↓tg3, ↓tg4, ↓tg5, ↓tg6, ↓tg7, ↓tg8, ↓tg9, ↓tg10, ↓tg11, ↓ts0, ↓ts1, ↓ts2, ↓ts3, ↓ts4, ↓ts5, ↓ts6, ↓ts7, ↓tp_x, ↓tp1, ↓tp2, ↓tp3, ↓tp4, ↓tps, mkT_i, mkT_is, cond_true, cond_false, qAv, qAn, qV_vv, q_atT, q_putT, qz4, qz40, qz10, qRd_in, qRd_out, qRd_m, qWr_in, qU_s, qU_n, qV_s, qV_n, zN_neg1, nL0, nL1, nL2, nL3, nL4, nL5, nL6, nL7, nL8, nL9, nL10, nL11, nL12, nL13, nL14, nL20, nL21, nL22, nL23, nL25, nL32, nL33, nL39, nL40, nL43, nL44, nL99, nL100, nL120, nL216, nL217, nL218, nL219, nL220, nL221, nL500, nL999, nL1000, nL10000, nL100000, sh33, zN_lt, zN_le, zN_eq, zN_ge0, zN_lt0, zN_nm, zN_mn, zN_mlt, zN_ltm, zN_lem, zN_mle, zN_m1, zN_m2, zN_addm, zN_ofNat, zN_beq, zN_add, zN_sub, zN_mul, zN_rem, qT_lt, qF_lt, qT_le, qF_le, qT_eq, qF_eq, ↓reduceIte, and_true, true_and, false_and, and_false, not_true_eq_false, not_false_eq_true, decide_true, decide_false, Bool.true_or, Bool.or_true, Bool.false_or, Bool.or_false, cond_true, cond_false, a0, a2]
      exact b3
theorem c_until (hI : invT Aq) (hT : repT Aq xq sc Rq) : ∃ (x1 : Int64) (sc1 : Nat → Int32) (R1 : Nat → Nat → Int32), pwX so 69 0 [some (.ref bq), none] [] g (mkT bq xq sc Rq w) = some (.inl (some (.int (tIn 1000 0 Aq))), g, (mkT bq x1 sc1 R1 w)) := by
  obtain ⟨x3, sc3, R3, b3⟩ := @c_until2 so g bq w 999 0 Aq xq sc Rq (by omega) hI hT
  refine ⟨x3, sc3, R3, ?_⟩
  simp only [s_X5_ticksUntilAllIn_0, s_X5_ticksUntilAllIn_1, nL0]
  exact b3
end QA

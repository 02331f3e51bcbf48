/-! the pure part: a tick of the class as a whole -/
section QA
variable {so : Nat → Nat} {g : pwG} {bq : Nat} {xq : Int64} {sc : Nat → Int32} {Rq Rz : Nat → Nat → Int32} {w : pwW} {Aq Bq : TA} {sq : Nat}
theorem c_s1 (hI : invT Aq) (hT : repT Aq xq sc Rq) (hs : sq < tN Aq 0) : ∃ x1 R1, repT (tLeave Aq sq) x1 sc R1 ∧ qN1 (tLeave Aq sq) sq = qN1 Aq sq ∧ qN2 (tLeave Aq sq) sq = qN2 Aq sq ∧ ∀ o3 o4 : Option Value, pwX so 71 25 [some (.ref bq), some (.int (zN (qFr Aq sq))), some (.int (zN sq)), o3, o4] [] g (mkT bq xq sc Rq w) = pwX so 71 71 [some (.ref bq), some (.int (zN (qFr (tLeave Aq sq) sq))), some (.int (zN sq)), some (.int (zN (qN1 Aq sq))), some (.int (zN (qN2 Aq sq)))] [] g (mkT bq x1 sc R1 w) := by
  have h4 := hI.1
  have a1 := @c_end1 so g bq xq sc Rq w Aq sq hI hT hs
  have a2 := @c_end2 so g bq xq sc Rq w Aq sq hI hT hs
  have a3 := @c_may so g bq xq sc Rq w Aq sq hI hT hs
  obtain ⟨d0, d1, d2⟩ := qN_e Aq sq
  by_cases hg : goL Aq sq
  · rw [if_pos hg] at a3
    have a4 := @c_choose so g bq xq sc Rq w Aq sq hI hT hs hg.1
    obtain ⟨a5, -⟩ := @c_leave so g bq xq sc Rq w Aq sq hI hT hs hg
    have hT2 : repT Aq (tX Aq) sc Rq := ⟨⟨⟨rfl, hT.1.1.2⟩, hT.1.2⟩, hT.2⟩
    have a6 : pwX so 74 0 [some (.ref bq), some (.int (zN sq)), some (.int (zN (qFr Aq sq + tI Aq sq))), some (.int (zN (qFr Aq sq))), none] [] g (mkT bq (chX (tN Aq 2) xq) sc Rq w) = some (.inl none, g, (mkT bq (chX (tN Aq 2) xq) sc (qLv Rq sq (qFr Aq sq + tI Aq sq) (qFr Aq sq) (tL Aq (8 + sq)).length (decide (sq + 1 = tN Aq 0)) (sc 2) (tWho Aq sq)) w)) := by
      have hl := c_len hI hs
      obtain ⟨hi, hk⟩ := tWho_get hg.1
      have hwl := tWho_lt hI hs hg.1
      obtain ⟨hrd, hrd2⟩ := rd_le hI hs
      have hpl : Rq 11 (qFr Aq sq + tI Aq sq) = zN (tWho Aq sq) := by
        rw [(((c_split hs).mp hT.2).2.1 (tI Aq sq) (eCr sq (tL Aq (4 + sq))[tI Aq sq]) (by rw [List.getElem?_map, List.getElem?_eq_getElem hi]; rfl)).1, ← hk]; rfl
      exact m_leave (Sq := tN Aq 0) hT.1.1.2.1 h4.1 hs (by omega) (by omega) (hT.1.2.1 sq hs).2.2.2.2.2.1 (by omega) hpl (by omega)
    have hL : tLeave Aq sq = tLv Aq sq := if_pos hg
    obtain ⟨hi, hk⟩ := tWho_get hg.1
    have e0 : qFr (tLv Aq sq) sq = qFr Aq sq + 1 := by unfold qFr; rw [tLv_fP h4.1 hs, List.length_append]; rfl
    have e1 : qN1 (tLv Aq sq) sq = qN1 Aq sq := by
      rw [(qN_e (tLv Aq sq) sq).2.1, e0, tLv_cr (by omega), List.length_eraseIdx_of_lt hi]; omega
    have e2 : qN2 (tLv Aq sq) sq = qN2 Aq sq := by
      rw [(qN_e (tLv Aq sq) sq).2.2, e1, tLv_C (by omega)]; omega
    rw [hL]
    refine ⟨_, _, a5, e1, e2, fun o3 o4 => ?_⟩
    rw [e0]
    simp (disch := omega) only [s_X5_tick_25, s_X5_tick_26, s_X5_tick_29, s_X5_tick_30, s_X5_tick_31, s_X5_tick_32, s_X5_tick_33, s_X5_tick_36, s_X5_tick_37, s_X5_tick_38, s_X5_tick_39, s_X5_tick_40, s_X5_tick_41, s_X5_tick_44, s_X5_tick_46, s_X5_tick_47, s_X5_tick_48, s_X5_tick_49, s_X5_tick_50, s_X5_tick_53, s_X5_tick_56, s_X5_tick_57, s_X5_tick_58, s_X5_tick_59, s_X5_tick_60, s_X5_tick_61, s_X5_tick_64, s_X5_tick_65, s_X5_tick_68, ↓tg0, ↓tg1, ↓tg2, ↓tg3, ↓tg4, ↓tg5, ↓tg6, ↓tg7, ↓tg8, ↓tg9, ↓tg10, ↓tg11, ↓ts0, ↓ts1, ↓ts2, ↓ts3, ↓ts4, ↓ts5, ↓ts6, ↓ts7, ↓tp_x, ↓tp1, ↓tp2, ↓tp3, ↓tp4, ↓tps, mkT_i, mkT_is, cond_true, cond_false, qAv, qAn, qV_vv, q_atT, q_putT, qz4, qz40, qz10, qRd_in, qRd_out, qRd_m, qWr_in, qU_s, qU_n, qV_s, qV_n, zN_neg1, nL0, nL1, nL2, nL3, nL4, nL5, nL6, nL7, nL8, nL9, nL10, nL11, nL12, nL13, nL14, nL20, nL21, nL22, nL23, nL25, nL32, nL33, nL39, nL40, nL43, nL44, nL99, nL100, nL120, nL216, nL217, nL218, nL219, nL220, nL221, nL500, nL999, nL1000, nL10000, nL100000, sh33, zN_lt, zN_le, zN_eq, zN_ge0, zN_lt0, zN_nm, zN_mn, zN_mlt, zN_ltm, zN_lem, zN_mle, zN_m1, zN_m2, zN_addm, zN_ofNat, zN_beq, zN_add, zN_sub, zN_mul, zN_rem, qT_lt, qF_lt, qT_le, qF_le, qT_eq, qF_eq, ↓reduceIte, and_true, true_and, false_and, and_false, not_true_eq_false, not_false_eq_true, decide_true, decide_false, Bool.true_or, Bool.or_true, Bool.false_or, Bool.or_false, cond_true, cond_false, a1, a2, a3, a4, a6]
  · rw [if_neg hg] at a3
    have hL : tLeave Aq sq = Aq := if_neg hg
    rw [hL]
    refine ⟨_, _, hT, rfl, rfl, fun o3 o4 => ?_⟩
    simp (disch := omega) only [s_X5_tick_25, s_X5_tick_26, s_X5_tick_29, s_X5_tick_30, s_X5_tick_31, s_X5_tick_32, s_X5_tick_33, s_X5_tick_36, s_X5_tick_37, s_X5_tick_38, s_X5_tick_39, s_X5_tick_40, s_X5_tick_41, s_X5_tick_44, s_X5_tick_46, s_X5_tick_47, s_X5_tick_48, s_X5_tick_49, s_X5_tick_50, s_X5_tick_53, s_X5_tick_56, s_X5_tick_57, s_X5_tick_58, s_X5_tick_59, s_X5_tick_60, s_X5_tick_61, s_X5_tick_64, s_X5_tick_65, s_X5_tick_68, ↓tg0, ↓tg1, ↓tg2, ↓tg3, ↓tg4, ↓tg5, ↓tg6, ↓tg7, ↓tg8, ↓tg9, ↓tg10, ↓tg11, ↓ts0, ↓ts1, ↓ts2, ↓ts3, ↓ts4, ↓ts5, ↓ts6, ↓ts7, ↓tp_x, ↓tp1, ↓tp2, ↓tp3, ↓tp4, ↓tps, mkT_i, mkT_is, cond_true, cond_false, qAv, qAn, qV_vv, q_atT, q_putT, qz4, qz40, qz10, qRd_in, qRd_out, qRd_m, qWr_in, qU_s, qU_n, qV_s, qV_n, zN_neg1, nL0, nL1, nL2, nL3, nL4, nL5, nL6, nL7, nL8, nL9, nL10, nL11, nL12, nL13, nL14, nL20, nL21, nL22, nL23, nL25, nL32, nL33, nL39, nL40, nL43, nL44, nL99, nL100, nL120, nL216, nL217, nL218, nL219, nL220, nL221, nL500, nL999, nL1000, nL10000, nL100000, sh33, zN_lt, zN_le, zN_eq, zN_ge0, zN_lt0, zN_nm, zN_mn, zN_mlt, zN_ltm, zN_lem, zN_mle, zN_m1, zN_m2, zN_addm, zN_ofNat, zN_beq, zN_add, zN_sub, zN_mul, zN_rem, qT_lt, qF_lt, qT_le, qF_le, qT_eq, qF_eq, ↓reduceIte, and_true, true_and, false_and, and_false, not_true_eq_false, not_false_eq_true, decide_true, decide_false, Bool.true_or, Bool.or_true, Bool.false_or, Bool.or_false, cond_true, cond_false, a1, a2, a3]
theorem c_s2 (hI : invT Aq) (hT : repT Aq xq sc Rq) (hs : sq < tN Aq 0) : ∃ R1, repT (tJoin Aq sq) xq sc R1 ∧ qN2 (tJoin Aq sq) sq = qN2 Aq sq ∧ pwX so 71 71 [some (.ref bq), some (.int (zN (qFr Aq sq))), some (.int (zN sq)), some (.int (zN (qN1 Aq sq))), some (.int (zN (qN2 Aq sq)))] [] g (mkT bq xq sc Rq w) = pwX so 71 100 [some (.ref bq), some (.int (zN (qFr Aq sq))), some (.int (zN sq)), some (.int (zN (qN1 (tJoin Aq sq) sq))), some (.int (zN (qN2 Aq sq)))] [] g (mkT bq xq sc R1 w) := by
  have h4 := hI.1
  have hl := c_len hI hs
  obtain ⟨d0, d1, d2⟩ := qN_e Aq sq
  unfold tJoin
  split
  · next hc =>
    rw [hc] at d2
    have d3 : ([] : List (Nat × Nat)).length = 0 := rfl
    refine ⟨_, hT, rfl, ?_⟩
    simp (disch := omega) only [s_X5_tick_71, s_X5_tick_72, s_X5_tick_74, s_X5_tick_77, s_X5_tick_78, s_X5_tick_79, s_X5_tick_80, s_X5_tick_81, s_X5_tick_82, s_X5_tick_83, s_X5_tick_86, s_X5_tick_89, s_X5_tick_90, s_X5_tick_91, s_X5_tick_92, s_X5_tick_93, s_X5_tick_94, s_X5_tick_97, ↓tg0, ↓tg1, ↓tg2, ↓tg3, ↓tg4, ↓tg5, ↓tg6, ↓tg7, ↓tg8, ↓tg9, ↓tg10, ↓tg11, ↓ts0, ↓ts1, ↓ts2, ↓ts3, ↓ts4, ↓ts5, ↓ts6, ↓ts7, ↓tp_x, ↓tp1, ↓tp2, ↓tp3, ↓tp4, ↓tps, mkT_i, mkT_is, cond_true, cond_false, qAv, qAn, qV_vv, q_atT, q_putT, qz4, qz40, qz10, qRd_in, qRd_out, qRd_m, qWr_in, qU_s, qU_n, qV_s, qV_n, zN_neg1, nL0, nL1, nL2, nL3, nL4, nL5, nL6, nL7, nL8, nL9, nL10, nL11, nL12, nL13, nL14, nL20, nL21, nL22, nL23, nL25, nL32, nL33, nL39, nL40, nL43, nL44, nL99, nL100, nL120, nL216, nL217, nL218, nL219, nL220, nL221, nL500, nL999, nL1000, nL10000, nL100000, sh33, zN_lt, zN_le, zN_eq, zN_ge0, zN_lt0, zN_nm, zN_mn, zN_mlt, zN_ltm, zN_lem, zN_mle, zN_m1, zN_m2, zN_addm, zN_ofNat, zN_beq, zN_add, zN_sub, zN_mul, zN_rem, qT_lt, qF_lt, qT_le, qF_le, qT_eq, qF_eq, ↓reduceIte, and_true, true_and, false_and, and_false, not_true_eq_false, not_false_eq_true, decide_true, decide_false, Bool.true_or, Bool.or_true, Bool.false_or, Bool.or_false, cond_true, cond_false]
  · next e1 es hc =>
    have d3 : (tC Aq sq).length = es.length + 1 := by rw [hc]; rfl
    have a1 := @c_jc so g bq xq sc Rq w Aq sq e1 es hI hT hs hc
    obtain ⟨a2, a3, a4, a5⟩ := @c_join xq sc Rq Aq sq e1 es hI hT hs hc
    by_cases hh : e1.1 + 1 = tN Aq (4 + sq) ∧ (tL Aq (4 + sq)).length < tN Aq (20 + sq)
    · rw [if_pos hh] at a1
      rw [if_pos hh]
      refine ⟨_, a2, a5, ?_⟩
      rw [a4]
      simp (disch := omega) only [s_X5_tick_71, s_X5_tick_72, s_X5_tick_74, s_X5_tick_77, s_X5_tick_78, s_X5_tick_79, s_X5_tick_80, s_X5_tick_81, s_X5_tick_82, s_X5_tick_83, s_X5_tick_86, s_X5_tick_89, s_X5_tick_90, s_X5_tick_91, s_X5_tick_92, s_X5_tick_93, s_X5_tick_94, s_X5_tick_97, ↓tg0, ↓tg1, ↓tg2, ↓tg3, ↓tg4, ↓tg5, ↓tg6, ↓tg7, ↓tg8, ↓tg9, ↓tg10, ↓tg11, ↓ts0, ↓ts1, ↓ts2, ↓ts3, ↓ts4, ↓ts5, ↓ts6, ↓ts7, ↓tp_x, ↓tp1, ↓tp2, ↓tp3, ↓tp4, ↓tps, mkT_i, mkT_is, cond_true, cond_false, qAv, qAn, qV_vv, q_atT, q_putT, qz4, qz40, qz10, qRd_in, qRd_out, qRd_m, qWr_in, qU_s, qU_n, qV_s, qV_n, zN_neg1, nL0, nL1, nL2, nL3, nL4, nL5, nL6, nL7, nL8, nL9, nL10, nL11, nL12, nL13, nL14, nL20, nL21, nL22, nL23, nL25, nL32, nL33, nL39, nL40, nL43, nL44, nL99, nL100, nL120, nL216, nL217, nL218, nL219, nL220, nL221, nL500, nL999, nL1000, nL10000, nL100000, sh33, zN_lt, zN_le, zN_eq, zN_ge0, zN_lt0, zN_nm, zN_mn, zN_mlt, zN_ltm, zN_lem, zN_mle, zN_m1, zN_m2, zN_addm, zN_ofNat, zN_beq, zN_add, zN_sub, zN_mul, zN_rem, qT_lt, qF_lt, qT_le, qF_le, qT_eq, qF_eq, ↓reduceIte, and_true, true_and, false_and, and_false, not_true_eq_false, not_false_eq_true, decide_true, decide_false, Bool.true_or, Bool.or_true, Bool.false_or, Bool.or_false, cond_true, cond_false, a1, m_stand]
    · rw [if_neg hh] at a1
      rw [if_neg hh]
      refine ⟨_, hT, rfl, ?_⟩
      simp (disch := omega) only [s_X5_tick_71, s_X5_tick_72, s_X5_tick_74, s_X5_tick_77, s_X5_tick_78, s_X5_tick_79, s_X5_tick_80, s_X5_tick_81, s_X5_tick_82, s_X5_tick_83, s_X5_tick_86, s_X5_tick_89, s_X5_tick_90, s_X5_tick_91, s_X5_tick_92, s_X5_tick_93, s_X5_tick_94, s_X5_tick_97, ↓tg0, ↓tg1, ↓tg2, ↓tg3, ↓tg4, ↓tg5, ↓tg6, ↓tg7, ↓tg8, ↓tg9, ↓tg10, ↓tg11, ↓ts0, ↓ts1, ↓ts2, ↓ts3, ↓ts4, ↓ts5, ↓ts6, ↓ts7, ↓tp_x, ↓tp1, ↓tp2, ↓tp3, ↓tp4, ↓tps, mkT_i, mkT_is, cond_true, cond_false, qAv, qAn, qV_vv, q_atT, q_putT, qz4, qz40, qz10, qRd_in, qRd_out, qRd_m, qWr_in, qU_s, qU_n, qV_s, qV_n, zN_neg1, nL0, nL1, nL2, nL3, nL4, nL5, nL6, nL7, nL8, nL9, nL10, nL11, nL12, nL13, nL14, nL20, nL21, nL22, nL23, nL25, nL32, nL33, nL39, nL40, nL43, nL44, nL99, nL100, nL120, nL216, nL217, nL218, nL219, nL220, nL221, nL500, nL999, nL1000, nL10000, nL100000, sh33, zN_lt, zN_le, zN_eq, zN_ge0, zN_lt0, zN_nm, zN_mn, zN_mlt, zN_ltm, zN_lem, zN_mle, zN_m1, zN_m2, zN_addm, zN_ofNat, zN_beq, zN_add, zN_sub, zN_mul, zN_rem, qT_lt, qF_lt, qT_le, qF_le, qT_eq, qF_eq, ↓reduceIte, and_true, true_and, false_and, and_false, not_true_eq_false, not_false_eq_true, decide_true, decide_false, Bool.true_or, Bool.or_true, Bool.false_or, Bool.or_false, cond_true, cond_false, a1]
theorem c_s3 (hI : invT Aq) (hT : repT Aq xq sc Rq) (hs : sq < tN Aq 0) {fr : Nat} : ∃ R1, repT (tMx (tMv Aq sq) sq) xq sc R1 ∧ pwX so 71 100 [some (.ref bq), some (.int (zN fr)), some (.int (zN sq)), some (.int (zN (qN1 Aq sq))), some (.int (zN (qN2 Aq sq)))] [] g (mkT bq xq sc Rq w) = pwX so 71 25 [some (.ref bq), some (.int (zN (qN2 Aq sq))), some (.int (zN sq + zM)), some (.int (zN (qN1 Aq sq))), some (.int (zN (qN2 Aq sq)))] [] g (mkT bq xq sc R1 w) := by
  have h4 := hI.1
  obtain ⟨R1, b1, b2⟩ := @c_mv so g bq xq sc Rq w Aq sq hI hT hs
  have hI2 := inv_Mv hI hs
  have ho : onlyS sq Aq (tMv Aq sq) := only_C
  have e0 : qFr (tMv Aq sq) sq = qFr Aq sq := by unfold qFr; rw [only_fP ho h4.1 (Nat.lt_add_one _)]
  have e1 : qN1 (tMv Aq sq) sq = qN1 Aq sq := by rw [(qN_e (tMv Aq sq) sq).2.1, e0, (qN_e Aq sq).2.1]; rfl
  have e2 : qN2 (tMv Aq sq) sq = qN2 Aq sq := by
    rw [(qN_e (tMv Aq sq) sq).2.2, e1, (qN_e Aq sq).2.2]
    have : tC (tMv Aq sq) sq = mvC (tN Aq (4 + sq)) (tC Aq sq) := va_up_self _ _ _
    rw [this, mvC_len]
  obtain ⟨R2, b3, b4⟩ := @c_mx so g bq xq sc R1 w (tMv Aq sq) sq hI2 b1 hs
  rw [e1, e2] at b4
  have h5 : sc 4 = zN (tN Aq 3) := hT.1.1.2.2.2.2.2
  by_cases hh : tN Aq 3 = 1
  · have hM : tMx (tMv Aq sq) sq = tSetC (tMv Aq sq) sq (mxC (tC (tMv Aq sq) sq)) := if_pos hh
    rw [hM]
    refine ⟨R2, b3, ?_⟩
    rw [hh] at h5
    simp (disch := omega) only [s_X5_tick_100, s_X5_tick_101, s_X5_tick_102, s_X5_tick_103, s_X5_tick_105, s_X5_tick_108, s_X5_tick_109, s_X5_tick_112, s_X5_tick_113, s_X5_tick_116, s_X5_tick_117, s_X5_tick_118, s_X5_tick_120, s_X5_tick_123, s_X5_tick_125, s_X5_tick_126, s_X5_tick_129, ↓tg0, ↓tg1, ↓tg2, ↓tg3, ↓tg4, ↓tg5, ↓tg6, ↓tg7, ↓tg8, ↓tg9, ↓tg10, ↓tg11, ↓ts0, ↓ts1, ↓ts2, ↓ts3, ↓ts4, ↓ts5, ↓ts6, ↓ts7, ↓tp_x, ↓tp1, ↓tp2, ↓tp3, ↓tp4, ↓tps, mkT_i, mkT_is, cond_true, cond_false, qAv, qAn, qV_vv, q_atT, q_putT, qz4, qz40, qz10, qRd_in, qRd_out, qRd_m, qWr_in, qU_s, qU_n, qV_s, qV_n, zN_neg1, nL0, nL1, nL2, nL3, nL4, nL5, nL6, nL7, nL8, nL9, nL10, nL11, nL12, nL13, nL14, nL20, nL21, nL22, nL23, nL25, nL32, nL33, nL39, nL40, nL43, nL44, nL99, nL100, nL120, nL216, nL217, nL218, nL219, nL220, nL221, nL500, nL999, nL1000, nL10000, nL100000, qT_lt, qF_lt, qT_le, qF_le, qT_eq, qF_eq, ↓reduceIte, and_true, true_and, false_and, and_false, not_true_eq_false, not_false_eq_true, decide_true, decide_false, Bool.true_or, Bool.or_true, Bool.false_or, Bool.or_false, cond_true, cond_false, b2, h5, b4]
  · have hM : tMx (tMv Aq sq) sq = tMv Aq sq := if_neg hh
    rw [hM]
    refine ⟨R1, b1, ?_⟩
    have h6 : tN Aq 3 < 1 ∨ 1 < tN Aq 3 := by omega
    simp (disch := omega) only [s_X5_tick_100, s_X5_tick_101, s_X5_tick_102, s_X5_tick_103, s_X5_tick_105, s_X5_tick_108, s_X5_tick_109, s_X5_tick_112, s_X5_tick_113, s_X5_tick_116, s_X5_tick_117, s_X5_tick_118, s_X5_tick_120, s_X5_tick_123, s_X5_tick_125, s_X5_tick_126, s_X5_tick_129, ↓tg0, ↓tg1, ↓tg2, ↓tg3, ↓tg4, ↓tg5, ↓tg6, ↓tg7, ↓tg8, ↓tg9, ↓tg10, ↓tg11, ↓ts0, ↓ts1, ↓ts2, ↓ts3, ↓ts4, ↓ts5, ↓ts6, ↓ts7, ↓tp_x, ↓tp1, ↓tp2, ↓tp3, ↓tp4, ↓tps, mkT_i, mkT_is, cond_true, cond_false, qAv, qAn, qV_vv, q_atT, q_putT, qz4, qz40, qz10, qRd_in, qRd_out, qRd_m, qWr_in, qU_s, qU_n, qV_s, qV_n, zN_neg1, nL0, nL1, nL2, nL3, nL4, nL5, nL6, nL7, nL8, nL9, nL10, nL11, nL12, nL13, nL14, nL20, nL21, nL22, nL23, nL25, nL32, nL33, nL39, nL40, nL43, nL44, nL99, nL100, nL120, nL216, nL217, nL218, nL219, nL220, nL221, nL500, nL999, nL1000, nL10000, nL100000, qT_lt, qF_lt, qT_le, qF_le, qT_eq, qF_eq, ↓reduceIte, and_true, true_and, false_and, and_false, not_true_eq_false, not_false_eq_true, decide_true, decide_false, Bool.true_or, Bool.or_true, Bool.false_or, Bool.or_false, cond_true, cond_false, zN_eq, b2, h5]
theorem fD_Street (h4 : sq < 4) {jq : Nat} (hj : jq ≤ sq) : fDn (tStreet Aq sq) jq = fDn Aq jq := by
  have h1 : fDn (tLeave Aq sq) jq = fDn Aq jq := by unfold tLeave; split; exact tLv_fD h4 hj; rfl
  have h2 : ∀ Bq : TA, fDn (tJoin Bq sq) jq = fDn Bq jq := by
    intro Bq; unfold tJoin; split
    · rfl
    · split
      · exact only_fD (only_Jn h4) h4 hj
      · rfl
  have h3 : ∀ Bq : TA, fDn (tMv Bq sq) jq = fDn Bq jq := fun Bq => only_fD only_C h4 hj
  have h5 : ∀ Bq : TA, fDn (tMx Bq sq) jq = fDn Bq jq := by
    intro Bq; unfold tMx; split
    · exact only_fD only_C h4 hj
    · rfl
  unfold tStreet
  rw [h5, h3, h2, h1]
theorem qN2_fP (hs : sq < tN Aq 0) : qN2 Aq sq = (fP Aq sq).length := by
  rw [fP_s hs]
  unfold fSt qN2
  simp only [List.length_append, List.length_map, Nat.add_assoc]
theorem c_street (hI : invT Aq) (hT : repT Aq xq sc Rq) (hs : sq < tN Aq 0) : ∃ x1 R1, repT (tStreet Aq sq) x1 sc R1 ∧ ∀ o3 o4 : Option Value, ∃ p3 p4 : Option Value, pwX so 71 25 [some (.ref bq), some (.int (zN (fP Aq (sq + 1)).length)), some (.int (zN sq)), o3, o4] [] g (mkT bq xq sc Rq w) = pwX so 71 25 [some (.ref bq), some (.int (zN (fP (tStreet Aq sq) sq).length)), some (.int (zN sq + zM)), p3, p4] [] g (mkT bq x1 sc R1 w) := by
  have h4 := hI.1
  obtain ⟨x1, R1, a1, a2, a3, a4⟩ := @c_s1 so g bq xq sc Rq w Aq sq hI hT hs
  have i1 := inv_Leave hI hs
  have hs1 : sq < tN (tLeave Aq sq) 0 := by rw [tLeave_N]; exact hs
  obtain ⟨R2, b1, b2, b3⟩ := @c_s2 so g bq x1 sc R1 w (tLeave Aq sq) sq i1 a1 hs1
  have i2 := inv_Join i1 hs1
  have hs2 : sq < tN (tJoin (tLeave Aq sq) sq) 0 := by rw [tJoin_N]; exact hs1
  obtain ⟨R3, c1, c2⟩ := @c_s3 so g bq x1 sc R2 w (tJoin (tLeave Aq sq) sq) sq i2 b1 hs2 (qFr (tLeave Aq sq) sq)
  have i3 := inv_Street hI hs
  have e1 : qN2 Aq sq = (fP (tStreet Aq sq) sq).length := by
    have e2 := len_split hI (Nat.le_of_lt hs)
    have e3 := len_split i3 (jq := sq) (by rw [tStreet_N]; omega)
    rw [fD_Street (by omega) (Nat.le_refl _), tStreet_N] at e3
    rw [qN2_fP hs]; omega
  refine ⟨x1, R3, c1, fun o3 o4 => ⟨some (.int (zN (qN1 (tJoin (tLeave Aq sq) sq) sq))), some (.int (zN (qN2 Aq sq))), ?_⟩⟩
  have a5 := a4 o3 o4
  rw [b2, a3, e1] at c2
  rw [a2, a3] at b3
  rw [← e1] at c2 ⊢
  exact a5.trans (b3.trans c2)
theorem inv_Down : ∀ jq (Aq : TA), jq ≤ tN Aq 0 → invT Aq → invT (tDown jq Aq) ∧ tN (tDown jq Aq) = tN Aq := by
  intro jq
  induction jq with
  | zero => intro Aq _ h; exact ⟨h, rfl⟩
  | succ jq ih =>
    intro Aq hj h
    obtain ⟨a, b⟩ := ih (tStreet Aq jq) (by rw [tStreet_N]; omega) (inv_Street h (by omega))
    exact ⟨a, by show tN (tDown jq (tStreet Aq jq)) = _; rw [b, tStreet_N]⟩
theorem c_down : ∀ jq (Aq : TA) (xq : Int64) (Rq : Nat → Nat → Int32), jq ≤ tN Aq 0 → invT Aq → repT Aq xq sc Rq → ∃ x1 R1, repT (tDown jq Aq) x1 sc R1 ∧ ∀ o3 o4 : Option Value, ∃ p3 p4 : Option Value, pwX so 71 25 [some (.ref bq), some (.int (zN (fP Aq jq).length)), some (.int (zN jq + zM)), o3, o4] [] g (mkT bq xq sc Rq w) = pwX so 71 25 [some (.ref bq), some (.int (zN (fP (tDown jq Aq) 0).length)), some (.int zM), p3, p4] [] g (mkT bq x1 sc R1 w) := by
  intro jq
  induction jq with
  | zero =>
    intro Aq xq Rq _ _ hT
    refine ⟨xq, Rq, hT, fun o3 o4 => ⟨o3, o4, ?_⟩⟩
    rw [show zN 0 + zM = zM by decide]; rfl
  | succ jq ih =>
    intro Aq xq Rq hj hI hT
    obtain ⟨x1, R1, a1, a2⟩ := @c_street so g bq xq sc Rq w Aq jq hI hT (by omega)
    obtain ⟨x2, R2, b1, b2⟩ := ih (tStreet Aq jq) x1 R1 (by rw [tStreet_N]; omega) (inv_Street hI (by omega)) a1
    refine ⟨x2, R2, b1, fun o3 o4 => ?_⟩
    obtain ⟨p3, p4, a3⟩ := a2 o3 o4
    obtain ⟨q3, q4, b3⟩ := b2 p3 p4
    refine ⟨q3, q4, ?_⟩
    rw [zN_addm (by omega), Nat.add_sub_cancel, a3, b3]
    rfl
end QA

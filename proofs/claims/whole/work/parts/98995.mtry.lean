/-! the pure part: the model tries on its trial row -/
theorem cm_Leave {Aq : TA} {sq : Nat} : (tL Aq 0).length ≤ (tL (tLeave Aq sq) 0).length := by
  unfold tLeave
  split
  · unfold tLv
    split
    · show (tL Aq 0).length ≤ (va_up (va_up (va_up (tL Aq) (4 + sq) ((tL Aq (4 + sq)).eraseIdx (tI Aq sq))) (8 + sq) (tL Aq (8 + sq) ++ [tWho Aq sq])) 0 (tL Aq 0 ++ [tWho Aq sq]) 0).length
      rw [va_up_self, List.length_append]; omega
    · show (tL Aq 0).length ≤ (va_up (va_up (tL Aq) (4 + sq) ((tL Aq (4 + sq)).eraseIdx (tI Aq sq))) (8 + sq) (tL Aq (8 + sq) ++ [tWho Aq sq]) 0).length
      rw [va_up_ne _ _ (by omega), va_up_ne _ _ (by omega)]; exact Nat.le_refl _
  · exact Nat.le_refl _
theorem cm_Join {Aq : TA} {sq : Nat} : tL (tJoin Aq sq) 0 = tL Aq 0 := by
  unfold tJoin
  split
  · rfl
  · split
    · show va_up (tL Aq) (4 + sq) _ 0 = _
      rw [va_up_ne _ _ (by omega)]
    · rfl
theorem cm_Mx {Aq : TA} {sq : Nat} : tL (tMx Aq sq) 0 = tL Aq 0 := by
  unfold tMx
  split <;> rfl
theorem cm_Street {Aq : TA} {sq : Nat} : (tL Aq 0).length ≤ (tL (tStreet Aq sq) 0).length := by
  unfold tStreet
  rw [cm_Mx]
  show _ ≤ (tL (tJoin (tLeave Aq sq) sq) 0).length
  rw [cm_Join]
  exact cm_Leave
theorem cm_Down : ∀ (jq : Nat) (Aq : TA), (tL Aq 0).length ≤ (tL (tDown jq Aq) 0).length
  | 0, _ => Nat.le_refl _
  | jq + 1, Aq => Nat.le_trans cm_Street (cm_Down jq (tStreet Aq jq))
theorem cm_Out {Aq : TA} : tL (tOut Aq) 0 = tL Aq 0 := by
  unfold tOut
  split
  · rfl
  · next kq ks hks =>
    split
    · show va_up (tL Aq) 1 ks 0 = _
      rw [va_up_ne _ _ (by omega)]
    · rfl
theorem cm_Tick {Aq : TA} : (tL Aq 0).length ≤ (tL (tTick Aq) 0).length := by
  unfold tTick
  rw [cm_Out]
  exact cm_Down (tN Aq 0) (tTime Aq)
theorem cm_Ticks : ∀ (nq : Nat) (Aq : TA), (tL Aq 0).length ≤ (tL (tTicks nq Aq) 0).length
  | 0, _ => Nat.le_refl _
  | nq + 1, Aq => Nat.le_trans cm_Tick (cm_Ticks nq (tTick Aq))
theorem wr1000_ : ∀ (a9 b9 : Fin 101), ¬ (zN a9.1 - zN b9.1 ≤ -(zN 1000)) := by decide +kernel
def triR (sc : Nat → Int32) (Rq : Nat → Nat → Int32) (Fq : FS) (Aq : TA) : Prop := modR sc Rq Fq ∧ invT Aq ∧ repM Aq (Rq 2)
section QA
variable {so : Nat → Nat} {g : pwG} {bq : Nat} {w : pwW} {Fq : FS} {pq kq rq tq uq : Int32} {Aq Bq : TA} {sc s1 : Nat → Int32} {Rq R1 : Nat → Nat → Int32} {fq hq : Nat → Int32}
theorem triR_f (h : triR sc Rq Fq Aq) (hI : invT Bq) (hz : repM Bq fq) : triR sc (va_up Rq 2 fq) Fq Bq := ⟨modR_w h.1 (Or.inl rfl), hI, by rw [qV_s]; exact hz⟩
theorem triR_7 (h : triR sc Rq Fq Aq) : triR sc (va_up Rq 7 fq) Fq Aq := ⟨modR_w h.1 (Or.inr (Or.inr (Or.inl rfl))), h.2.1, by rw [qV_n (by decide)]; exact h.2.2⟩
theorem o_rTicks (h : triR sc Rq Fq Aq) : ∃ R1, triR sc R1 Fq (aT Aq pq) ∧ pwX so 209 0 [some (.ref bq), some (.int pq)] [] g (mkM bq sc Rq w) = some (.inl (some (.int (qI (okTk pq)))), g, (mkM bq sc R1 w)) := by
  unfold aT qI
  by_cases h1 : okTk pq
  · rw [if_pos h1, if_pos h1]
    have b1 : ∀ {w1 : pwW}, pwX so 133 0 [some (.long (pq.toInt64)), none, some (.long 1), none, some (.long 99), none] [] g w1 = some (.inl (some (.int (zN 1))), g, w1) := in_T (by rw [i2l, jL1, jL99]; exact h1)
    obtain ⟨n9, rfl, e4, e5, e6⟩ := un_ex (pq := pq) (by have := h1.1; omega)
    rw [e6]
    obtain ⟨f1, c1, c2⟩ := o_goTicks (so := so) (g := g) (bq := bq) (w := w) (sc := sc) (Rq := Rq) (jr := 2) (nq := n9) (by decide) (by decide) e5 h.2.1 h.2.2
    have c3 := cm_Ticks n9 Aq
    have c4 := come_len (inv_Ticks n9 Aq h.2.1)
    rw [zN_sub c3] at c2
    rw [tTicks_N _ _ h.2.1] at c4
    have c5 := h.2.1.1
    refine ⟨_, triR_f h (inv_Ticks _ _ h.2.1) c1, ?_⟩
    simp (disch := omega) only [s_X8_runTicks_0, s_X8_runTicks_1, s_X8_runTicks_2, s_X8_runTicks_3, s_X8_runTicks_6, s_X8_runTicks_9, s_X8_runTicks_12, s_X8_runTicks_13, s_X8_runTicks_16, s_X8_runTicks_17, s_X8_runTicks_20, s_X8_runTicks_23, s_X8_runTicks_24, s_X8_runTicks_27, s_X8_runTicks_28, ↓mg0, ↓mg1, ↓mg2, ↓mg3, ↓mg4, ↓mg5, ↓mg6, ↓mg7, ↓mg8, ↓mg9, ↓mg10, ↓mg11, ↓mg12, ↓mg13, ↓mg14, ↓mp0, ↓mp5, ↓mp11, ↓mp12, ↓mp13, ↓mp14, ↓ml1, ↓ml2, ↓ml3, ↓ml4, ↓ml5, ↓ml7, ↓ml8, ↓ml9, ↓mlr, ↓mt1, ↓mt2, ↓mt3, ↓mt4, ↓mt5, ↓mt7, ↓mt8, ↓mt9, ↓mlz, ↓mtz, mm_i, cond_true, cond_false, qAv, qAn, qV_vv, qV_s, qV_n, qU_s, qU_n, zN_neg1, nL0, nL1, nL2, nL3, nL4, nL5, nL6, nL7, nL8, nL9, nL10, nL11, nL12, nL13, nL14, nL20, nL21, nL22, nL23, nL25, nL32, nL33, nL39, nL40, nL43, nL44, nL99, nL100, nL120, nL216, nL217, nL218, nL219, nL220, nL221, nL500, nL999, nL1000, nL10000, nL100000, sh33, zN_lt, zN_le, zN_eq, zN_ge0, zN_lt0, zN_nm, zN_mn, zN_mlt, zN_ltm, zN_lem, zN_mle, zN_m1, zN_m2, zN_addm, zN_ofNat, zN_beq, zN_add, zN_sub, zN_mul, zN_rem, qT_lt, qF_lt, qT_le, qF_le, qT_eq, qF_eq, ↓reduceIte, and_true, true_and, false_and, and_false, not_true_eq_false, not_false_eq_true, decide_true, decide_false, Bool.true_or, Bool.or_true, Bool.false_or, Bool.or_false, cond_true, cond_false, qbi, qb1, qb0, b1, c2, Option.bind_some]
  · rw [if_neg h1, if_neg h1]
    have b1 : ∀ {w1 : pwW}, pwX so 133 0 [some (.long (pq.toInt64)), none, some (.long 1), none, some (.long 99), none] [] g w1 = some (.inl (some (.int (zN 0))), g, w1) := in_F (by rw [i2l, jL1, jL99]; exact h1)
    refine ⟨Rq, h, ?_⟩
    simp (disch := omega) only [s_X8_runTicks_0, s_X8_runTicks_1, s_X8_runTicks_2, s_X8_runTicks_3, s_X8_runTicks_6, s_X8_runTicks_9, s_X8_runTicks_12, s_X8_runTicks_13, s_X8_runTicks_16, s_X8_runTicks_17, s_X8_runTicks_20, s_X8_runTicks_23, s_X8_runTicks_24, s_X8_runTicks_27, s_X8_runTicks_28, ↓mg0, ↓mg1, ↓mg2, ↓mg3, ↓mg4, ↓mg5, ↓mg6, ↓mg7, ↓mg8, ↓mg9, ↓mg10, ↓mg11, ↓mg12, ↓mg13, ↓mg14, ↓mp0, ↓mp5, ↓mp11, ↓mp12, ↓mp13, ↓mp14, ↓ml1, ↓ml2, ↓ml3, ↓ml4, ↓ml5, ↓ml7, ↓ml8, ↓ml9, ↓mlr, ↓mt1, ↓mt2, ↓mt3, ↓mt4, ↓mt5, ↓mt7, ↓mt8, ↓mt9, ↓mlz, ↓mtz, mm_i, cond_true, cond_false, qAv, qAn, qV_vv, qV_s, qV_n, qU_s, qU_n, zN_neg1, nL0, nL1, nL2, nL3, nL4, nL5, nL6, nL7, nL8, nL9, nL10, nL11, nL12, nL13, nL14, nL20, nL21, nL22, nL23, nL25, nL32, nL33, nL39, nL40, nL43, nL44, nL99, nL100, nL120, nL216, nL217, nL218, nL219, nL220, nL221, nL500, nL999, nL1000, nL10000, nL100000, sh33, zN_lt, zN_le, zN_eq, zN_ge0, zN_lt0, zN_nm, zN_mn, zN_mlt, zN_ltm, zN_lem, zN_mle, zN_m1, zN_m2, zN_addm, zN_ofNat, zN_beq, zN_add, zN_sub, zN_mul, zN_rem, qT_lt, qF_lt, qT_le, qF_le, qT_eq, qF_eq, ↓reduceIte, and_true, true_and, false_and, and_false, not_true_eq_false, not_false_eq_true, decide_true, decide_false, Bool.true_or, Bool.or_true, Bool.false_or, Bool.or_false, cond_true, cond_false, qbi, qb1, qb0, b1, Option.bind_some]
theorem o_rEx (h : triR sc Rq Fq Aq) : ∃ R1, triR sc R1 Fq (aX Aq kq pq) ∧ pwX so 210 0 [some (.ref bq), some (.int kq), some (.int pq), none] [] g (mkM bq sc Rq w) = some (.inl (some (.int (qI (tyX Aq kq pq)))), g, (mkM bq sc R1 w)) := by
  have hI := h.2.1
  have hz := h.2.2
  have h4 := hI.1
  have b1 := o_isW (so := so) (g := g) (bq := bq) (sc := sc) (Rq := Rq) (w := w) (jr := 2) (pq := kq) (by decide) (by decide) hI hz
  have b2 := o_isW (so := so) (g := g) (bq := bq) (sc := sc) (Rq := Rq) (w := w) (jr := 2) (pq := pq) (by decide) (by decide) hI hz
  unfold aX qI
  by_cases h1 : isWd Aq kq
  · rw [if_pos h1] at b1
    by_cases h2 : isWd Aq pq
    · rw [if_pos h2] at b2
      obtain ⟨n9, rfl, e4, e5, e6⟩ := un_ex h1.1
      obtain ⟨m9, rfl, d4, d5, d6⟩ := un_ex h2.1
      have hk : n9 < tN Aq 1 := by have := h1.2; omega
      have ho : m9 < tN Aq 1 := by have := h2.2; omega
      unfold tyX
      rw [e6, d6]
      by_cases h3 : n9 = m9
      · rw [if_neg (fun hh => hh.2.1 h3), if_neg (fun hh => hh.2.1 h3)]
        refine ⟨Rq, h, ?_⟩
        simp (disch := omega) only [s_X8_runExchange_0, s_X8_runExchange_1, s_X8_runExchange_4, s_X8_runExchange_5, s_X8_runExchange_8, s_X8_runExchange_11, s_X8_runExchange_12, s_X8_runExchange_15, s_X8_runExchange_16, s_X8_runExchange_19, s_X8_runExchange_22, s_X8_runExchange_23, s_X8_runExchange_24, s_X8_runExchange_27, s_X8_runExchange_28, s_X8_runExchange_31, s_X8_runExchange_32, s_X8_runExchange_33, s_X8_runExchange_34, s_X8_runExchange_37, s_X8_runExchange_38, s_X8_runExchange_41, s_X8_runExchange_42, s_X8_runExchange_43, s_X8_runExchange_46, s_X8_runExchange_49, s_X8_runExchange_50, s_X8_runExchange_51, s_X8_runExchange_54, s_X8_runExchange_55, s_X8_runExchange_56, s_X8_runExchange_59, s_X8_runExchange_62, s_X8_runExchange_65, s_X8_runExchange_66, s_X8_runExchange_69, s_X8_runExchange_70, ↓mg0, ↓mg1, ↓mg2, ↓mg3, ↓mg4, ↓mg5, ↓mg6, ↓mg7, ↓mg8, ↓mg9, ↓mg10, ↓mg11, ↓mg12, ↓mg13, ↓mg14, ↓mp0, ↓mp5, ↓mp11, ↓mp12, ↓mp13, ↓mp14, ↓ml1, ↓ml2, ↓ml3, ↓ml4, ↓ml5, ↓ml7, ↓ml8, ↓ml9, ↓mlr, ↓mt1, ↓mt2, ↓mt3, ↓mt4, ↓mt5, ↓mt7, ↓mt8, ↓mt9, ↓mlz, ↓mtz, mm_i, cond_true, cond_false, qAv, qAn, qV_vv, qV_s, qV_n, qU_s, qU_n, zN_neg1, nL0, nL1, nL2, nL3, nL4, nL5, nL6, nL7, nL8, nL9, nL10, nL11, nL12, nL13, nL14, nL20, nL21, nL22, nL23, nL25, nL32, nL33, nL39, nL40, nL43, nL44, nL99, nL100, nL120, nL216, nL217, nL218, nL219, nL220, nL221, nL500, nL999, nL1000, nL10000, nL100000, sh33, zN_lt, zN_le, zN_eq, zN_ge0, zN_lt0, zN_nm, zN_mn, zN_mlt, zN_ltm, zN_lem, zN_mle, zN_m1, zN_m2, zN_addm, zN_ofNat, zN_beq, zN_add, zN_sub, zN_mul, zN_rem, qT_lt, qF_lt, qT_le, qF_le, qT_eq, qF_eq, ↓reduceIte, and_true, true_and, false_and, and_false, not_true_eq_false, not_false_eq_true, decide_true, decide_false, Bool.true_or, Bool.or_true, Bool.false_or, Bool.or_false, cond_true, cond_false, qbi, qb1, qb0, b1, b2, Option.bind_some]
      · have b3 := n_canEx (so := so) (g := g) (aq := bq + 2) (fq := Rq 2) (w := mkM bq sc Rq w) (kq := n9) (oq := m9) hI hz hk ho
        rw [mr_in (by decide) (by decide)] at b3
        by_cases h5 : ¬ n9 ∈ tL Aq 0 ∧ ¬ m9 ∈ tL Aq 0
        · rw [if_pos h5] at b3
          rw [if_pos ⟨⟨h1, h2⟩, h3, h5⟩, if_pos ⟨⟨h1, h2⟩, h3, h5⟩]
          obtain ⟨f1, f7, a1, a2⟩ := n_goExch (so := so) (g := g) (bq := bq) (sc := sc) (Rq := Rq) (w := w) (jr := 2) (Aq := Aq) (kq := n9) (oq := m9) (by decide) (by decide) hI hz hk ho h3
          have l1 := aWr_le hI
          have l2 := aWr_le (inv_Swap hI hk ho)
          have l3 := wr1000_ ⟨aWr Aq, by omega⟩ ⟨aWr (tSwap Aq n9 m9), by omega⟩
          dsimp only at l3
          refine ⟨va_up (va_up Rq 2 f1) 7 f7, triR_7 (triR_f h (inv_Swap hI hk ho) a1), ?_⟩
          simp (disch := omega) only [s_X8_runExchange_0, s_X8_runExchange_1, s_X8_runExchange_4, s_X8_runExchange_5, s_X8_runExchange_8, s_X8_runExchange_11, s_X8_runExchange_12, s_X8_runExchange_15, s_X8_runExchange_16, s_X8_runExchange_19, s_X8_runExchange_22, s_X8_runExchange_23, s_X8_runExchange_24, s_X8_runExchange_27, s_X8_runExchange_28, s_X8_runExchange_31, s_X8_runExchange_32, s_X8_runExchange_33, s_X8_runExchange_34, s_X8_runExchange_37, s_X8_runExchange_38, s_X8_runExchange_41, s_X8_runExchange_42, s_X8_runExchange_43, s_X8_runExchange_46, s_X8_runExchange_49, s_X8_runExchange_50, s_X8_runExchange_51, s_X8_runExchange_54, s_X8_runExchange_55, s_X8_runExchange_56, s_X8_runExchange_59, s_X8_runExchange_62, s_X8_runExchange_65, s_X8_runExchange_66, s_X8_runExchange_69, s_X8_runExchange_70, ↓mg0, ↓mg1, ↓mg2, ↓mg3, ↓mg4, ↓mg5, ↓mg6, ↓mg7, ↓mg8, ↓mg9, ↓mg10, ↓mg11, ↓mg12, ↓mg13, ↓mg14, ↓mp0, ↓mp5, ↓mp11, ↓mp12, ↓mp13, ↓mp14, ↓ml1, ↓ml2, ↓ml3, ↓ml4, ↓ml5, ↓ml7, ↓ml8, ↓ml9, ↓mlr, ↓mt1, ↓mt2, ↓mt3, ↓mt4, ↓mt5, ↓mt7, ↓mt8, ↓mt9, ↓mlz, ↓mtz, mm_i, cond_true, cond_false, qAv, qAn, qV_vv, qV_s, qV_n, qU_s, qU_n, zN_neg1, nL0, nL1, nL2, nL3, nL4, nL5, nL6, nL7, nL8, nL9, nL10, nL11, nL12, nL13, nL14, nL20, nL21, nL22, nL23, nL25, nL32, nL33, nL39, nL40, nL43, nL44, nL99, nL100, nL120, nL216, nL217, nL218, nL219, nL220, nL221, nL500, nL999, nL1000, nL10000, nL100000, sh33, zN_lt, zN_le, zN_eq, zN_ge0, zN_lt0, zN_nm, zN_mn, zN_mlt, zN_ltm, zN_lem, zN_mle, zN_m1, zN_m2, zN_addm, zN_ofNat, zN_beq, zN_add, zN_sub, zN_mul, zN_rem, qT_lt, qF_lt, qT_le, qF_le, qT_eq, qF_eq, ↓reduceIte, and_true, true_and, false_and, and_false, not_true_eq_false, not_false_eq_true, decide_true, decide_false, Bool.true_or, Bool.or_true, Bool.false_or, Bool.or_false, cond_true, cond_false, qbi, qb1, qb0, b1, b2, b3, a2, l3, Option.bind_some]
        · rw [if_neg h5] at b3
          rw [if_neg (fun hh => h5 hh.2.2), if_neg (fun hh => h5 hh.2.2)]
          refine ⟨Rq, h, ?_⟩
          simp (disch := omega) only [s_X8_runExchange_0, s_X8_runExchange_1, s_X8_runExchange_4, s_X8_runExchange_5, s_X8_runExchange_8, s_X8_runExchange_11, s_X8_runExchange_12, s_X8_runExchange_15, s_X8_runExchange_16, s_X8_runExchange_19, s_X8_runExchange_22, s_X8_runExchange_23, s_X8_runExchange_24, s_X8_runExchange_27, s_X8_runExchange_28, s_X8_runExchange_31, s_X8_runExchange_32, s_X8_runExchange_33, s_X8_runExchange_34, s_X8_runExchange_37, s_X8_runExchange_38, s_X8_runExchange_41, s_X8_runExchange_42, s_X8_runExchange_43, s_X8_runExchange_46, s_X8_runExchange_49, s_X8_runExchange_50, s_X8_runExchange_51, s_X8_runExchange_54, s_X8_runExchange_55, s_X8_runExchange_56, s_X8_runExchange_59, s_X8_runExchange_62, s_X8_runExchange_65, s_X8_runExchange_66, s_X8_runExchange_69, s_X8_runExchange_70, ↓mg0, ↓mg1, ↓mg2, ↓mg3, ↓mg4, ↓mg5, ↓mg6, ↓mg7, ↓mg8, ↓mg9, ↓mg10, ↓mg11, ↓mg12, ↓mg13, ↓mg14, ↓mp0, ↓mp5, ↓mp11, ↓mp12, ↓mp13, ↓mp14, ↓ml1, ↓ml2, ↓ml3, ↓ml4, ↓ml5, ↓ml7, ↓ml8, ↓ml9, ↓mlr, ↓mt1, ↓mt2, ↓mt3, ↓mt4, ↓mt5, ↓mt7, ↓mt8, ↓mt9, ↓mlz, ↓mtz, mm_i, cond_true, cond_false, qAv, qAn, qV_vv, qV_s, qV_n, qU_s, qU_n, zN_neg1, nL0, nL1, nL2, nL3, nL4, nL5, nL6, nL7, nL8, nL9, nL10, nL11, nL12, nL13, nL14, nL20, nL21, nL22, nL23, nL25, nL32, nL33, nL39, nL40, nL43, nL44, nL99, nL100, nL120, nL216, nL217, nL218, nL219, nL220, nL221, nL500, nL999, nL1000, nL10000, nL100000, sh33, zN_lt, zN_le, zN_eq, zN_ge0, zN_lt0, zN_nm, zN_mn, zN_mlt, zN_ltm, zN_lem, zN_mle, zN_m1, zN_m2, zN_addm, zN_ofNat, zN_beq, zN_add, zN_sub, zN_mul, zN_rem, qT_lt, qF_lt, qT_le, qF_le, qT_eq, qF_eq, ↓reduceIte, and_true, true_and, false_and, and_false, not_true_eq_false, not_false_eq_true, decide_true, decide_false, Bool.true_or, Bool.or_true, Bool.false_or, Bool.or_false, cond_true, cond_false, qbi, qb1, qb0, b1, b2, b3, Option.bind_some]
    · rw [if_neg h2] at b2
      rw [if_neg (fun hh => h2 hh.1.2), if_neg (fun hh => h2 hh.1.2)]
      refine ⟨Rq, h, ?_⟩
      simp (disch := omega) only [s_X8_runExchange_0, s_X8_runExchange_1, s_X8_runExchange_4, s_X8_runExchange_5, s_X8_runExchange_8, s_X8_runExchange_11, s_X8_runExchange_12, s_X8_runExchange_15, s_X8_runExchange_16, s_X8_runExchange_19, s_X8_runExchange_22, s_X8_runExchange_23, s_X8_runExchange_24, s_X8_runExchange_27, s_X8_runExchange_28, s_X8_runExchange_31, s_X8_runExchange_32, s_X8_runExchange_33, s_X8_runExchange_34, s_X8_runExchange_37, s_X8_runExchange_38, s_X8_runExchange_41, s_X8_runExchange_42, s_X8_runExchange_43, s_X8_runExchange_46, s_X8_runExchange_49, s_X8_runExchange_50, s_X8_runExchange_51, s_X8_runExchange_54, s_X8_runExchange_55, s_X8_runExchange_56, s_X8_runExchange_59, s_X8_runExchange_62, s_X8_runExchange_65, s_X8_runExchange_66, s_X8_runExchange_69, s_X8_runExchange_70, ↓mg0, ↓mg1, ↓mg2, ↓mg3, ↓mg4, ↓mg5, ↓mg6, ↓mg7, ↓mg8, ↓mg9, ↓mg10, ↓mg11, ↓mg12, ↓mg13, ↓mg14, ↓mp0, ↓mp5, ↓mp11, ↓mp12, ↓mp13, ↓mp14, ↓ml1, ↓ml2, ↓ml3, ↓ml4, ↓ml5, ↓ml7, ↓ml8, ↓ml9, ↓mlr, ↓mt1, ↓mt2, ↓mt3, ↓mt4, ↓mt5, ↓mt7, ↓mt8, ↓mt9, ↓mlz, ↓mtz, mm_i, cond_true, cond_false, qAv, qAn, qV_vv, qV_s, qV_n, qU_s, qU_n, zN_neg1, nL0, nL1, nL2, nL3, nL4, nL5, nL6, nL7, nL8, nL9, nL10, nL11, nL12, nL13, nL14, nL20, nL21, nL22, nL23, nL25, nL32, nL33, nL39, nL40, nL43, nL44, nL99, nL100, nL120, nL216, nL217, nL218, nL219, nL220, nL221, nL500, nL999, nL1000, nL10000, nL100000, sh33, zN_lt, zN_le, zN_eq, zN_ge0, zN_lt0, zN_nm, zN_mn, zN_mlt, zN_ltm, zN_lem, zN_mle, zN_m1, zN_m2, zN_addm, zN_ofNat, zN_beq, zN_add, zN_sub, zN_mul, zN_rem, qT_lt, qF_lt, qT_le, qF_le, qT_eq, qF_eq, ↓reduceIte, and_true, true_and, false_and, and_false, not_true_eq_false, not_false_eq_true, decide_true, decide_false, Bool.true_or, Bool.or_true, Bool.false_or, Bool.or_false, cond_true, cond_false, qbi, qb1, qb0, b1, b2, Option.bind_some]
  · rw [if_neg h1] at b1
    rw [if_neg (fun hh => h1 hh.1.1), if_neg (fun hh => h1 hh.1.1)]
    refine ⟨Rq, h, ?_⟩
    simp (disch := omega) only [s_X8_runExchange_0, s_X8_runExchange_1, s_X8_runExchange_4, s_X8_runExchange_5, s_X8_runExchange_8, s_X8_runExchange_11, s_X8_runExchange_12, s_X8_runExchange_15, s_X8_runExchange_16, s_X8_runExchange_19, s_X8_runExchange_22, s_X8_runExchange_23, s_X8_runExchange_24, s_X8_runExchange_27, s_X8_runExchange_28, s_X8_runExchange_31, s_X8_runExchange_32, s_X8_runExchange_33, s_X8_runExchange_34, s_X8_runExchange_37, s_X8_runExchange_38, s_X8_runExchange_41, s_X8_runExchange_42, s_X8_runExchange_43, s_X8_runExchange_46, s_X8_runExchange_49, s_X8_runExchange_50, s_X8_runExchange_51, s_X8_runExchange_54, s_X8_runExchange_55, s_X8_runExchange_56, s_X8_runExchange_59, s_X8_runExchange_62, s_X8_runExchange_65, s_X8_runExchange_66, s_X8_runExchange_69, s_X8_runExchange_70, ↓mg0, ↓mg1, ↓mg2, ↓mg3, ↓mg4, ↓mg5, ↓mg6, ↓mg7, ↓mg8, ↓mg9, ↓mg10, ↓mg11, ↓mg12, ↓mg13, ↓mg14, ↓mp0, ↓mp5, ↓mp11, ↓mp12, ↓mp13, ↓mp14, ↓ml1, ↓ml2, ↓ml3, ↓ml4, ↓ml5, ↓ml7, ↓ml8, ↓ml9, ↓mlr, ↓mt1, ↓mt2, ↓mt3, ↓mt4, ↓mt5, ↓mt7, ↓mt8, ↓mt9, ↓mlz, ↓mtz, mm_i, cond_true, cond_false, qAv, qAn, qV_vv, qV_s, qV_n, qU_s, qU_n, zN_neg1, nL0, nL1, nL2, nL3, nL4, nL5, nL6, nL7, nL8, nL9, nL10, nL11, nL12, nL13, nL14, nL20, nL21, nL22, nL23, nL25, nL32, nL33, nL39, nL40, nL43, nL44, nL99, nL100, nL120, nL216, nL217, nL218, nL219, nL220, nL221, nL500, nL999, nL1000, nL10000, nL100000, sh33, zN_lt, zN_le, zN_eq, zN_ge0, zN_lt0, zN_nm, zN_mn, zN_mlt, zN_ltm, zN_lem, zN_mle, zN_m1, zN_m2, zN_addm, zN_ofNat, zN_beq, zN_add, zN_sub, zN_mul, zN_rem, qT_lt, qF_lt, qT_le, qF_le, qT_eq, qF_eq, ↓reduceIte, and_true, true_and, false_and, and_false, not_true_eq_false, not_false_eq_true, decide_true, decide_false, Bool.true_or, Bool.or_true, Bool.false_or, Bool.or_false, cond_true, cond_false, qbi, qb1, qb0, b1, Option.bind_some]
theorem o_rSh (h : triR sc Rq Fq Aq) : ∃ R1, triR sc R1 Fq (aH Aq kq pq) ∧ pwX so 211 0 [some (.ref bq), some (.int kq), some (.int pq)] [] g (mkM bq sc Rq w) = some (.inl (some (.int (qI (tyH Aq kq pq)))), g, (mkM bq sc R1 w)) := by
  have hI := h.2.1
  have hz := h.2.2
  have h4 := hI.1
  have b1 := o_isS (so := so) (g := g) (bq := bq) (sc := sc) (Rq := Rq) (w := w) (jr := 2) (pq := kq) (by decide) (by decide) hI hz
  unfold aH qI
  by_cases h1 : isSd Aq kq
  · rw [if_pos h1] at b1
    by_cases h2 : okSh pq
    · rw [if_pos ⟨h1, h2⟩, if_pos ⟨h1, h2⟩]
      have b2 : ∀ {w1 : pwW}, pwX so 139 0 [some (.int pq)] [] g w1 = some (.inl (some (.int (zN 1))), g, w1) := by intro w1; rw [n_isShift, if_pos h2]
      obtain ⟨n9, rfl, e4, e5, e6⟩ := un_ex h1.1
      obtain ⟨m9, rfl, d4, d5, d6⟩ := un_ex h2.1
      have hs : n9 < tN Aq 0 := by have := h1.2; omega
      have hm : m9 ≤ 39 := by have := h2.2; omega
      rw [e6, d6]
      have a2 := n_put (so := so) (g := g) (aq := bq + 2) (fq := Rq 2) (w := mkM bq sc Rq w) (iq := 44 + 43 * n9 + 3) (pq := zN m9) (by omega)
      rw [mr_in (by decide) (by decide), mr_out (by decide) (by decide)] at a2
      have a3 : Rq 2 (44 + 43 * n9 + 3) = zN (tN Aq (16 + n9)) := (hz.2.2.2.2 n9 hs).1.2.2.2.1
      have a4 := (hI.2.2 n9 hs).1.2.2.2.1
      rw [a3] at a2
      have a1 := repM_num (Aq := Aq) (fq := Rq 2) (jq := 16 + n9) (vq := m9) (iq := 44 + 43 * n9 + 3) hI hz (Or.inr (Or.inr ⟨by omega, by omega, by rw [Nat.add_sub_cancel_left]⟩))
      refine ⟨_, triR_f h (inv_Num hI (Or.inr (Or.inr ⟨by omega, by omega, by omega⟩))) a1, ?_⟩
      simp (disch := omega) only [s_X8_runShift_0, s_X8_runShift_1, s_X8_runShift_4, s_X8_runShift_5, s_X8_runShift_8, s_X8_runShift_11, s_X8_runShift_12, s_X8_runShift_15, s_X8_runShift_18, s_X8_runShift_19, s_X8_runShift_22, s_X8_runShift_23, s_X8_runShift_26, s_X8_runShift_27, s_X8_runShift_28, s_X8_runShift_29, s_X8_runShift_32, s_X8_runShift_35, s_X8_runShift_36, s_X8_runShift_39, s_X8_runShift_40, ↓mg0, ↓mg1, ↓mg2, ↓mg3, ↓mg4, ↓mg5, ↓mg6, ↓mg7, ↓mg8, ↓mg9, ↓mg10, ↓mg11, ↓mg12, ↓mg13, ↓mg14, ↓mp0, ↓mp5, ↓mp11, ↓mp12, ↓mp13, ↓mp14, ↓ml1, ↓ml2, ↓ml3, ↓ml4, ↓ml5, ↓ml7, ↓ml8, ↓ml9, ↓mlr, ↓mt1, ↓mt2, ↓mt3, ↓mt4, ↓mt5, ↓mt7, ↓mt8, ↓mt9, ↓mlz, ↓mtz, mm_i, cond_true, cond_false, qAv, qAn, qV_vv, qV_s, qV_n, qU_s, qU_n, zN_neg1, nL0, nL1, nL2, nL3, nL4, nL5, nL6, nL7, nL8, nL9, nL10, nL11, nL12, nL13, nL14, nL20, nL21, nL22, nL23, nL25, nL32, nL33, nL39, nL40, nL43, nL44, nL99, nL100, nL120, nL216, nL217, nL218, nL219, nL220, nL221, nL500, nL999, nL1000, nL10000, nL100000, sh33, zN_lt, zN_le, zN_eq, zN_ge0, zN_lt0, zN_nm, zN_mn, zN_mlt, zN_ltm, zN_lem, zN_mle, zN_m1, zN_m2, zN_addm, zN_ofNat, zN_beq, zN_add, zN_sub, zN_mul, zN_rem, qT_lt, qF_lt, qT_le, qF_le, qT_eq, qF_eq, ↓reduceIte, and_true, true_and, false_and, and_false, not_true_eq_false, not_false_eq_true, decide_true, decide_false, Bool.true_or, Bool.or_true, Bool.false_or, Bool.or_false, cond_true, cond_false, qbi, qb1, qb0, n_block, b1, b2, a2, Option.bind_some]
    · rw [if_neg (fun hh => h2 hh.2), if_neg (fun hh => h2 hh.2)]
      have b2 : ∀ {w1 : pwW}, pwX so 139 0 [some (.int pq)] [] g w1 = some (.inl (some (.int (zN 0))), g, w1) := by intro w1; rw [n_isShift, if_neg h2]
      refine ⟨Rq, h, ?_⟩
      simp (disch := omega) only [s_X8_runShift_0, s_X8_runShift_1, s_X8_runShift_4, s_X8_runShift_5, s_X8_runShift_8, s_X8_runShift_11, s_X8_runShift_12, s_X8_runShift_15, s_X8_runShift_18, s_X8_runShift_19, s_X8_runShift_22, s_X8_runShift_23, s_X8_runShift_26, s_X8_runShift_27, s_X8_runShift_28, s_X8_runShift_29, s_X8_runShift_32, s_X8_runShift_35, s_X8_runShift_36, s_X8_runShift_39, s_X8_runShift_40, ↓mg0, ↓mg1, ↓mg2, ↓mg3, ↓mg4, ↓mg5, ↓mg6, ↓mg7, ↓mg8, ↓mg9, ↓mg10, ↓mg11, ↓mg12, ↓mg13, ↓mg14, ↓mp0, ↓mp5, ↓mp11, ↓mp12, ↓mp13, ↓mp14, ↓ml1, ↓ml2, ↓ml3, ↓ml4, ↓ml5, ↓ml7, ↓ml8, ↓ml9, ↓mlr, ↓mt1, ↓mt2, ↓mt3, ↓mt4, ↓mt5, ↓mt7, ↓mt8, ↓mt9, ↓mlz, ↓mtz, mm_i, cond_true, cond_false, qAv, qAn, qV_vv, qV_s, qV_n, qU_s, qU_n, zN_neg1, nL0, nL1, nL2, nL3, nL4, nL5, nL6, nL7, nL8, nL9, nL10, nL11, nL12, nL13, nL14, nL20, nL21, nL22, nL23, nL25, nL32, nL33, nL39, nL40, nL43, nL44, nL99, nL100, nL120, nL216, nL217, nL218, nL219, nL220, nL221, nL500, nL999, nL1000, nL10000, nL100000, sh33, zN_lt, zN_le, zN_eq, zN_ge0, zN_lt0, zN_nm, zN_mn, zN_mlt, zN_ltm, zN_lem, zN_mle, zN_m1, zN_m2, zN_addm, zN_ofNat, zN_beq, zN_add, zN_sub, zN_mul, zN_rem, qT_lt, qF_lt, qT_le, qF_le, qT_eq, qF_eq, ↓reduceIte, and_true, true_and, false_and, and_false, not_true_eq_false, not_false_eq_true, decide_true, decide_false, Bool.true_or, Bool.or_true, Bool.false_or, Bool.or_false, cond_true, cond_false, qbi, qb1, qb0, b1, b2, Option.bind_some]
  · rw [if_neg h1] at b1
    rw [if_neg (fun hh => h1 hh.1), if_neg (fun hh => h1 hh.1)]
    refine ⟨Rq, h, ?_⟩
    simp (disch := omega) only [s_X8_runShift_0, s_X8_runShift_1, s_X8_runShift_4, s_X8_runShift_5, s_X8_runShift_8, s_X8_runShift_11, s_X8_runShift_12, s_X8_runShift_15, s_X8_runShift_18, s_X8_runShift_19, s_X8_runShift_22, s_X8_runShift_23, s_X8_runShift_26, s_X8_runShift_27, s_X8_runShift_28, s_X8_runShift_29, s_X8_runShift_32, s_X8_runShift_35, s_X8_runShift_36, s_X8_runShift_39, s_X8_runShift_40, ↓mg0, ↓mg1, ↓mg2, ↓mg3, ↓mg4, ↓mg5, ↓mg6, ↓mg7, ↓mg8, ↓mg9, ↓mg10, ↓mg11, ↓mg12, ↓mg13, ↓mg14, ↓mp0, ↓mp5, ↓mp11, ↓mp12, ↓mp13, ↓mp14, ↓ml1, ↓ml2, ↓ml3, ↓ml4, ↓ml5, ↓ml7, ↓ml8, ↓ml9, ↓mlr, ↓mt1, ↓mt2, ↓mt3, ↓mt4, ↓mt5, ↓mt7, ↓mt8, ↓mt9, ↓mlz, ↓mtz, mm_i, cond_true, cond_false, qAv, qAn, qV_vv, qV_s, qV_n, qU_s, qU_n, zN_neg1, nL0, nL1, nL2, nL3, nL4, nL5, nL6, nL7, nL8, nL9, nL10, nL11, nL12, nL13, nL14, nL20, nL21, nL22, nL23, nL25, nL32, nL33, nL39, nL40, nL43, nL44, nL99, nL100, nL120, nL216, nL217, nL218, nL219, nL220, nL221, nL500, nL999, nL1000, nL10000, nL100000, sh33, zN_lt, zN_le, zN_eq, zN_ge0, zN_lt0, zN_nm, zN_mn, zN_mlt, zN_ltm, zN_lem, zN_mle, zN_m1, zN_m2, zN_addm, zN_ofNat, zN_beq, zN_add, zN_sub, zN_mul, zN_rem, qT_lt, qF_lt, qT_le, qF_le, qT_eq, qF_eq, ↓reduceIte, and_true, true_and, false_and, and_false, not_true_eq_false, not_false_eq_true, decide_true, decide_false, Bool.true_or, Bool.or_true, Bool.false_or, Bool.or_false, cond_true, cond_false, qbi, qb1, qb0, b1, Option.bind_some]
theorem o_rSet (h : triR sc Rq Fq Aq) : ∃ R1, triR sc R1 Fq (aG Aq kq pq) ∧ pwX so 212 0 [some (.ref bq), some (.int kq), some (.int pq)] [] g (mkM bq sc Rq w) = some (.inl (some (.int (qI (okSt kq pq)))), g, (mkM bq sc R1 w)) := by
  have hI := h.2.1
  have hz := h.2.2
  have h4 := hI.1
  unfold aG qI
  by_cases h1 : okSt kq pq
  · rw [if_pos h1, if_pos h1]
    have b1 : ∀ {w1 : pwW}, pwX so 141 0 [some (.int kq), some (.int pq)] [] g w1 = some (.inl (some (.int (zN 1))), g, w1) := by intro w1; rw [o_isSet, if_pos h1]
    obtain ⟨n9, rfl, e4, e5, e6⟩ := un_ex (pq := kq) (by unfold okSt at h1; omega)
    obtain ⟨m9, rfl, d4, d5, d6⟩ := un_ex (pq := pq) (by unfold okSt at h1; omega)
    rw [e6, d6]
    have hc : (n9 = 0 ∧ m9 ≤ 3) ∨ (n9 = 1 ∧ m9 ≤ 1) := by unfold okSt at h1; omega
    have a2 := n_put (so := so) (g := g) (aq := bq + 2) (fq := Rq 2) (w := mkM bq sc Rq w) (iq := 216 + n9) (pq := zN m9) (by omega)
    rw [mr_in (by decide) (by decide), mr_out (by decide) (by decide)] at a2
    have a3 : Rq 2 (216 + n9) = zN (tN Aq (2 + n9)) ∧ tN Aq (2 + n9) ≤ 3 := by
      rcases hc with ⟨rfl, -⟩ | ⟨rfl, -⟩
      · exact ⟨hz.1.2.2.1, by have := h4.2.2.1; exact this⟩
      · exact ⟨hz.1.2.2.2.1, by have := h4.2.2.2; show tN Aq 3 ≤ 3; omega⟩
    rw [a3.1] at a2
    have a5 := a3.2
    have a1 := repM_num (Aq := Aq) (fq := Rq 2) (jq := 2 + n9) (vq := m9) (iq := 216 + n9) hI hz (by omega)
    refine ⟨_, triR_f h (inv_Num hI (by omega)) a1, ?_⟩
    simp (disch := omega) only [s_X8_runSet_0, s_X8_runSet_1, s_X8_runSet_2, s_X8_runSet_5, s_X8_runSet_8, s_X8_runSet_9, s_X8_runSet_12, s_X8_runSet_15, s_X8_runSet_16, s_X8_runSet_17, s_X8_runSet_18, s_X8_runSet_21, s_X8_runSet_24, s_X8_runSet_25, s_X8_runSet_28, s_X8_runSet_29, ↓mg0, ↓mg1, ↓mg2, ↓mg3, ↓mg4, ↓mg5, ↓mg6, ↓mg7, ↓mg8, ↓mg9, ↓mg10, ↓mg11, ↓mg12, ↓mg13, ↓mg14, ↓mp0, ↓mp5, ↓mp11, ↓mp12, ↓mp13, ↓mp14, ↓ml1, ↓ml2, ↓ml3, ↓ml4, ↓ml5, ↓ml7, ↓ml8, ↓ml9, ↓mlr, ↓mt1, ↓mt2, ↓mt3, ↓mt4, ↓mt5, ↓mt7, ↓mt8, ↓mt9, ↓mlz, ↓mtz, mm_i, cond_true, cond_false, qAv, qAn, qV_vv, qV_s, qV_n, qU_s, qU_n, zN_neg1, nL0, nL1, nL2, nL3, nL4, nL5, nL6, nL7, nL8, nL9, nL10, nL11, nL12, nL13, nL14, nL20, nL21, nL22, nL23, nL25, nL32, nL33, nL39, nL40, nL43, nL44, nL99, nL100, nL120, nL216, nL217, nL218, nL219, nL220, nL221, nL500, nL999, nL1000, nL10000, nL100000, sh33, zN_lt, zN_le, zN_eq, zN_ge0, zN_lt0, zN_nm, zN_mn, zN_mlt, zN_ltm, zN_lem, zN_mle, zN_m1, zN_m2, zN_addm, zN_ofNat, zN_beq, zN_add, zN_sub, zN_mul, zN_rem, qT_lt, qF_lt, qT_le, qF_le, qT_eq, qF_eq, ↓reduceIte, and_true, true_and, false_and, and_false, not_true_eq_false, not_false_eq_true, decide_true, decide_false, Bool.true_or, Bool.or_true, Bool.false_or, Bool.or_false, cond_true, cond_false, qbi, qb1, qb0, b1, a2, Option.bind_some]
  · rw [if_neg h1, if_neg h1]
    have b1 : ∀ {w1 : pwW}, pwX so 141 0 [some (.int kq), some (.int pq)] [] g w1 = some (.inl (some (.int (zN 0))), g, w1) := by intro w1; rw [o_isSet, if_neg h1]
    refine ⟨Rq, h, ?_⟩
    simp (disch := omega) only [s_X8_runSet_0, s_X8_runSet_1, s_X8_runSet_2, s_X8_runSet_5, s_X8_runSet_8, s_X8_runSet_9, s_X8_runSet_12, s_X8_runSet_15, s_X8_runSet_16, s_X8_runSet_17, s_X8_runSet_18, s_X8_runSet_21, s_X8_runSet_24, s_X8_runSet_25, s_X8_runSet_28, s_X8_runSet_29, ↓mg0, ↓mg1, ↓mg2, ↓mg3, ↓mg4, ↓mg5, ↓mg6, ↓mg7, ↓mg8, ↓mg9, ↓mg10, ↓mg11, ↓mg12, ↓mg13, ↓mg14, ↓mp0, ↓mp5, ↓mp11, ↓mp12, ↓mp13, ↓mp14, ↓ml1, ↓ml2, ↓ml3, ↓ml4, ↓ml5, ↓ml7, ↓ml8, ↓ml9, ↓mlr, ↓mt1, ↓mt2, ↓mt3, ↓mt4, ↓mt5, ↓mt7, ↓mt8, ↓mt9, ↓mlz, ↓mtz, mm_i, cond_true, cond_false, qAv, qAn, qV_vv, qV_s, qV_n, qU_s, qU_n, zN_neg1, nL0, nL1, nL2, nL3, nL4, nL5, nL6, nL7, nL8, nL9, nL10, nL11, nL12, nL13, nL14, nL20, nL21, nL22, nL23, nL25, nL32, nL33, nL39, nL40, nL43, nL44, nL99, nL100, nL120, nL216, nL217, nL218, nL219, nL220, nL221, nL500, nL999, nL1000, nL10000, nL100000, sh33, zN_lt, zN_le, zN_eq, zN_ge0, zN_lt0, zN_nm, zN_mn, zN_mlt, zN_ltm, zN_lem, zN_mle, zN_m1, zN_m2, zN_addm, zN_ofNat, zN_beq, zN_add, zN_sub, zN_mul, zN_rem, qT_lt, qF_lt, qT_le, qF_le, qT_eq, qF_eq, ↓reduceIte, and_true, true_and, false_and, and_false, not_true_eq_false, not_false_eq_true, decide_true, decide_false, Bool.true_or, Bool.or_true, Bool.false_or, Bool.or_false, cond_true, cond_false, qbi, qb1, qb0, b1, Option.bind_some]
theorem o_isAt {p9 m9 : Nat} (h : triR sc Rq Fq Aq) (hp : p9 ≤ 9) (hm : m9 ≤ 9) : ∃ R1, triR sc R1 Fq Aq ∧ pwX so 213 0 [some (.ref bq), some (.int (zN p9)), some (.int (zN m9))] [] g (mkM bq sc Rq w) = some (.inl (some (.int (qI (m9 < tN Aq 1 ∧ plc Aq m9 = p9)))), g, (mkM bq sc R1 w)) := by
  have hI := h.2.1
  have hz := h.2.2
  have h4 := hI.1
  obtain ⟨f7, c1, b0⟩ := n_layFile (so := so) (g := g) (bq := bq) (sc := sc) (Rq := Rq) (w := w) (jr := 2) (by decide) (by decide) hI hz
  have h7 := triR_7 (fq := f7) h
  have e0 : va_up Rq 7 f7 2 0 = zN (tN Aq 1) := h7.2.2.1.1
  have e9 : Rq 2 0 = zN (tN Aq 1) := hz.1.1
  have b1 := o_isW (so := so) (g := g) (bq := bq) (sc := sc) (Rq := va_up Rq 7 f7) (w := w) (jr := 2) (pq := zN m9) (by decide) (by decide) hI h7.2.2
  refine ⟨_, h7, ?_⟩
  unfold qI
  have hw : isWd Aq (zN m9) ↔ m9 < tN Aq 1 := by unfold isWd; rw [zN_toInt (by omega)]; omega
  by_cases h1 : p9 < tN Aq 1
  · have b2 : ∀ {w1 : pwW}, pwX so 133 0 [some (.long ((zN p9).toInt64)), none, some (.long 0), none, some (.long ((zN (tN Aq 1 - 1)).toInt64)), none] [] g w1 = some (.inl (some (.int (zN 1))), g, w1) := in_T (by rw [i2l, i2l, jL0, zN_toInt (by omega), zN_toInt (by omega)]; omega)
    have c2 := c1 p9 h1
    obtain ⟨w1, w2⟩ := wF_get hI h1
    by_cases h2 : m9 < tN Aq 1
    · rw [if_pos (hw.mpr h2)] at b1
      by_cases h3 : wF Aq p9 = m9
      · rw [h3] at w1
        have h5 := w_inj hI (plc_get hI h2) w1
        rw [if_pos ⟨h2, h5⟩]
        rw [h3] at c2
        simp (disch := omega) only [s_X8_isAt_0, s_X8_isAt_1, s_X8_isAt_2, s_X8_isAt_5, s_X8_isAt_8, s_X8_isAt_9, s_X8_isAt_10, s_X8_isAt_11, s_X8_isAt_12, s_X8_isAt_15, s_X8_isAt_16, s_X8_isAt_17, s_X8_isAt_18, s_X8_isAt_19, s_X8_isAt_20, s_X8_isAt_23, s_X8_isAt_26, s_X8_isAt_27, s_X8_isAt_30, s_X8_isAt_31, s_X8_isAt_34, s_X8_isAt_37, s_X8_isAt_38, s_X8_isAt_41, s_X8_isAt_42, s_X8_isAt_43, s_X8_isAt_44, s_X8_isAt_47, s_X8_isAt_48, s_X8_isAt_51, s_X8_isAt_52, ↓mg0, ↓mg1, ↓mg2, ↓mg3, ↓mg4, ↓mg5, ↓mg6, ↓mg7, ↓mg8, ↓mg9, ↓mg10, ↓mg11, ↓mg12, ↓mg13, ↓mg14, ↓mp0, ↓mp5, ↓mp11, ↓mp12, ↓mp13, ↓mp14, ↓ml1, ↓ml2, ↓ml3, ↓ml4, ↓ml5, ↓ml7, ↓ml8, ↓ml9, ↓mlr, ↓mt1, ↓mt2, ↓mt3, ↓mt4, ↓mt5, ↓mt7, ↓mt8, ↓mt9, ↓mlz, ↓mtz, mm_i, cond_true, cond_false, qAv, qAn, qV_vv, qV_s, qV_n, qU_s, qU_n, zN_neg1, nL0, nL1, nL2, nL3, nL4, nL5, nL6, nL7, nL8, nL9, nL10, nL11, nL12, nL13, nL14, nL20, nL21, nL22, nL23, nL25, nL32, nL33, nL39, nL40, nL43, nL44, nL99, nL100, nL120, nL216, nL217, nL218, nL219, nL220, nL221, nL500, nL999, nL1000, nL10000, nL100000, sh33, zN_lt, zN_le, zN_eq, zN_ge0, zN_lt0, zN_nm, zN_mn, zN_mlt, zN_ltm, zN_lem, zN_mle, zN_m1, zN_m2, zN_addm, zN_ofNat, zN_beq, zN_add, zN_sub, zN_mul, zN_rem, qT_lt, qF_lt, qT_le, qF_le, qT_eq, qF_eq, ↓reduceIte, and_true, true_and, false_and, and_false, not_true_eq_false, not_false_eq_true, decide_true, decide_false, Bool.true_or, Bool.or_true, Bool.false_or, Bool.or_false, cond_true, cond_false, qbi, qb1, qb0, b0, b1, b2, e0, e9, c2, Option.bind_some]
      · rw [if_neg (fun hh => h3 (by
          have := plc_get hI h2
          rw [hh.2, w1] at this
          exact Option.some.inj this))]
        simp (disch := omega) only [s_X8_isAt_0, s_X8_isAt_1, s_X8_isAt_2, s_X8_isAt_5, s_X8_isAt_8, s_X8_isAt_9, s_X8_isAt_10, s_X8_isAt_11, s_X8_isAt_12, s_X8_isAt_15, s_X8_isAt_16, s_X8_isAt_17, s_X8_isAt_18, s_X8_isAt_19, s_X8_isAt_20, s_X8_isAt_23, s_X8_isAt_26, s_X8_isAt_27, s_X8_isAt_30, s_X8_isAt_31, s_X8_isAt_34, s_X8_isAt_37, s_X8_isAt_38, s_X8_isAt_41, s_X8_isAt_42, s_X8_isAt_43, s_X8_isAt_44, s_X8_isAt_47, s_X8_isAt_48, s_X8_isAt_51, s_X8_isAt_52, ↓mg0, ↓mg1, ↓mg2, ↓mg3, ↓mg4, ↓mg5, ↓mg6, ↓mg7, ↓mg8, ↓mg9, ↓mg10, ↓mg11, ↓mg12, ↓mg13, ↓mg14, ↓mp0, ↓mp5, ↓mp11, ↓mp12, ↓mp13, ↓mp14, ↓ml1, ↓ml2, ↓ml3, ↓ml4, ↓ml5, ↓ml7, ↓ml8, ↓ml9, ↓mlr, ↓mt1, ↓mt2, ↓mt3, ↓mt4, ↓mt5, ↓mt7, ↓mt8, ↓mt9, ↓mlz, ↓mtz, mm_i, cond_true, cond_false, qAv, qAn, qV_vv, qV_s, qV_n, qU_s, qU_n, zN_neg1, nL0, nL1, nL2, nL3, nL4, nL5, nL6, nL7, nL8, nL9, nL10, nL11, nL12, nL13, nL14, nL20, nL21, nL22, nL23, nL25, nL32, nL33, nL39, nL40, nL43, nL44, nL99, nL100, nL120, nL216, nL217, nL218, nL219, nL220, nL221, nL500, nL999, nL1000, nL10000, nL100000, sh33, zN_lt, zN_le, zN_eq, zN_ge0, zN_lt0, zN_nm, zN_mn, zN_mlt, zN_ltm, zN_lem, zN_mle, zN_m1, zN_m2, zN_addm, zN_ofNat, zN_beq, zN_add, zN_sub, zN_mul, zN_rem, qT_lt, qF_lt, qT_le, qF_le, qT_eq, qF_eq, ↓reduceIte, and_true, true_and, false_and, and_false, not_true_eq_false, not_false_eq_true, decide_true, decide_false, Bool.true_or, Bool.or_true, Bool.false_or, Bool.or_false, cond_true, cond_false, qbi, qb1, qb0, b0, b1, b2, e0, e9, c2, h3, Option.bind_some]
    · rw [if_neg (fun hh => h2 (hw.mp hh))] at b1
      rw [if_neg (fun hh => h2 hh.1)]
      simp (disch := omega) only [s_X8_isAt_0, s_X8_isAt_1, s_X8_isAt_2, s_X8_isAt_5, s_X8_isAt_8, s_X8_isAt_9, s_X8_isAt_10, s_X8_isAt_11, s_X8_isAt_12, s_X8_isAt_15, s_X8_isAt_16, s_X8_isAt_17, s_X8_isAt_18, s_X8_isAt_19, s_X8_isAt_20, s_X8_isAt_23, s_X8_isAt_26, s_X8_isAt_27, s_X8_isAt_30, s_X8_isAt_31, s_X8_isAt_34, s_X8_isAt_37, s_X8_isAt_38, s_X8_isAt_41, s_X8_isAt_42, s_X8_isAt_43, s_X8_isAt_44, s_X8_isAt_47, s_X8_isAt_48, s_X8_isAt_51, s_X8_isAt_52, ↓mg0, ↓mg1, ↓mg2, ↓mg3, ↓mg4, ↓mg5, ↓mg6, ↓mg7, ↓mg8, ↓mg9, ↓mg10, ↓mg11, ↓mg12, ↓mg13, ↓mg14, ↓mp0, ↓mp5, ↓mp11, ↓mp12, ↓mp13, ↓mp14, ↓ml1, ↓ml2, ↓ml3, ↓ml4, ↓ml5, ↓ml7, ↓ml8, ↓ml9, ↓mlr, ↓mt1, ↓mt2, ↓mt3, ↓mt4, ↓mt5, ↓mt7, ↓mt8, ↓mt9, ↓mlz, ↓mtz, mm_i, cond_true, cond_false, qAv, qAn, qV_vv, qV_s, qV_n, qU_s, qU_n, zN_neg1, nL0, nL1, nL2, nL3, nL4, nL5, nL6, nL7, nL8, nL9, nL10, nL11, nL12, nL13, nL14, nL20, nL21, nL22, nL23, nL25, nL32, nL33, nL39, nL40, nL43, nL44, nL99, nL100, nL120, nL216, nL217, nL218, nL219, nL220, nL221, nL500, nL999, nL1000, nL10000, nL100000, sh33, zN_lt, zN_le, zN_eq, zN_ge0, zN_lt0, zN_nm, zN_mn, zN_mlt, zN_ltm, zN_lem, zN_mle, zN_m1, zN_m2, zN_addm, zN_ofNat, zN_beq, zN_add, zN_sub, zN_mul, zN_rem, qT_lt, qF_lt, qT_le, qF_le, qT_eq, qF_eq, ↓reduceIte, and_true, true_and, false_and, and_false, not_true_eq_false, not_false_eq_true, decide_true, decide_false, Bool.true_or, Bool.or_true, Bool.false_or, Bool.or_false, cond_true, cond_false, qbi, qb1, qb0, b0, b1, b2, e0, e9, Option.bind_some]
  · rw [if_neg (fun hh => h1 (by have := plc_lt hI hh.1; omega))]
    by_cases h8 : 1 ≤ tN Aq 1
    · have b2 : ∀ {w1 : pwW}, pwX so 133 0 [some (.long ((zN p9).toInt64)), none, some (.long 0), none, some (.long ((zN (tN Aq 1 - 1)).toInt64)), none] [] g w1 = some (.inl (some (.int (zN 0))), g, w1) := in_F (by rw [i2l, i2l, jL0, zN_toInt (by omega), zN_toInt (by omega)]; omega)
      simp (disch := omega) only [s_X8_isAt_0, s_X8_isAt_1, s_X8_isAt_2, s_X8_isAt_5, s_X8_isAt_8, s_X8_isAt_9, s_X8_isAt_10, s_X8_isAt_11, s_X8_isAt_12, s_X8_isAt_15, s_X8_isAt_16, s_X8_isAt_17, s_X8_isAt_18, s_X8_isAt_19, s_X8_isAt_20, s_X8_isAt_23, s_X8_isAt_26, s_X8_isAt_27, s_X8_isAt_30, s_X8_isAt_31, s_X8_isAt_34, s_X8_isAt_37, s_X8_isAt_38, s_X8_isAt_41, s_X8_isAt_42, s_X8_isAt_43, s_X8_isAt_44, s_X8_isAt_47, s_X8_isAt_48, s_X8_isAt_51, s_X8_isAt_52, ↓mg0, ↓mg1, ↓mg2, ↓mg3, ↓mg4, ↓mg5, ↓mg6, ↓mg7, ↓mg8, ↓mg9, ↓mg10, ↓mg11, ↓mg12, ↓mg13, ↓mg14, ↓mp0, ↓mp5, ↓mp11, ↓mp12, ↓mp13, ↓mp14, ↓ml1, ↓ml2, ↓ml3, ↓ml4, ↓ml5, ↓ml7, ↓ml8, ↓ml9, ↓mlr, ↓mt1, ↓mt2, ↓mt3, ↓mt4, ↓mt5, ↓mt7, ↓mt8, ↓mt9, ↓mlz, ↓mtz, mm_i, cond_true, cond_false, qAv, qAn, qV_vv, qV_s, qV_n, qU_s, qU_n, zN_neg1, nL0, nL1, nL2, nL3, nL4, nL5, nL6, nL7, nL8, nL9, nL10, nL11, nL12, nL13, nL14, nL20, nL21, nL22, nL23, nL25, nL32, nL33, nL39, nL40, nL43, nL44, nL99, nL100, nL120, nL216, nL217, nL218, nL219, nL220, nL221, nL500, nL999, nL1000, nL10000, nL100000, sh33, zN_lt, zN_le, zN_eq, zN_ge0, zN_lt0, zN_nm, zN_mn, zN_mlt, zN_ltm, zN_lem, zN_mle, zN_m1, zN_m2, zN_addm, zN_ofNat, zN_beq, zN_add, zN_sub, zN_mul, zN_rem, qT_lt, qF_lt, qT_le, qF_le, qT_eq, qF_eq, ↓reduceIte, and_true, true_and, false_and, and_false, not_true_eq_false, not_false_eq_true, decide_true, decide_false, Bool.true_or, Bool.or_true, Bool.false_or, Bool.or_false, cond_true, cond_false, qbi, qb1, qb0, b0, b2, e0, e9, Option.bind_some]
    · have h8 : tN Aq 1 = 0 := by omega
      have b2 : ∀ {w1 : pwW}, pwX so 133 0 [some (.long ((zN p9).toInt64)), none, some (.long 0), none, some (.long ((zN 0 - zN 1).toInt64)), none] [] g w1 = some (.inl (some (.int (zN 0))), g, w1) := in_F (by rw [i2l, i2l, jL0, zN_toInt (by omega)]; intro hh; have h9 := hh.2; rw [show (zN 0 - zN 1).toInt = -1 from rfl] at h9; omega)
      rw [h8] at e0 e9
      simp (disch := omega) only [s_X8_isAt_0, s_X8_isAt_1, s_X8_isAt_2, s_X8_isAt_5, s_X8_isAt_8, s_X8_isAt_9, s_X8_isAt_10, s_X8_isAt_11, s_X8_isAt_12, s_X8_isAt_15, s_X8_isAt_16, s_X8_isAt_17, s_X8_isAt_18, s_X8_isAt_19, s_X8_isAt_20, s_X8_isAt_23, s_X8_isAt_26, s_X8_isAt_27, s_X8_isAt_30, s_X8_isAt_31, s_X8_isAt_34, s_X8_isAt_37, s_X8_isAt_38, s_X8_isAt_41, s_X8_isAt_42, s_X8_isAt_43, s_X8_isAt_44, s_X8_isAt_47, s_X8_isAt_48, s_X8_isAt_51, s_X8_isAt_52, ↓mg0, ↓mg1, ↓mg2, ↓mg3, ↓mg4, ↓mg5, ↓mg6, ↓mg7, ↓mg8, ↓mg9, ↓mg10, ↓mg11, ↓mg12, ↓mg13, ↓mg14, ↓mp0, ↓mp5, ↓mp11, ↓mp12, ↓mp13, ↓mp14, ↓ml1, ↓ml2, ↓ml3, ↓ml4, ↓ml5, ↓ml7, ↓ml8, ↓ml9, ↓mlr, ↓mt1, ↓mt2, ↓mt3, ↓mt4, ↓mt5, ↓mt7, ↓mt8, ↓mt9, ↓mlz, ↓mtz, mm_i, cond_true, cond_false, qAv, qAn, qV_vv, qV_s, qV_n, zN_neg1, nL0, nL1, nL2, nL3, nL4, nL5, nL6, nL7, nL8, nL9, nL10, nL11, nL12, nL13, nL14, nL20, nL21, nL22, nL23, nL25, nL32, nL33, nL39, nL40, nL43, nL44, nL99, nL100, nL120, nL216, nL217, nL218, nL219, nL220, nL221, nL500, nL999, nL1000, nL10000, nL100000, qT_lt, qF_lt, qT_le, qF_le, qT_eq, qF_eq, ↓reduceIte, and_true, true_and, false_and, and_false, not_true_eq_false, not_false_eq_true, decide_true, decide_false, Bool.true_or, Bool.or_true, Bool.false_or, Bool.or_false, cond_true, cond_false, zN_eq, qbi, qb1, qb0, b0, b2, e0, e9, Option.bind_some]
end QA

/-! the pure part: the model's measures -/
def mI2 (fq : Nat → Int32) (iq : Nat) : Nat → Nat
  | 0 => 0
  | jq + 1 => mI2 fq iq jq + (if fq iq < fq jq then 1 else 0)
def wO (fq : Nat → Int32) : Nat → Nat
  | 0 => 0
  | iq + 1 => wO fq iq + mI2 fq iq iq
theorem pOut_s {fq : Nat → Int32} {nq : Nat} : ∀ mq, mq ≤ nq → pOut fq (nq + 1) mq = pOut fq nq mq + mI2 fq nq mq := by
  intro mq
  induction mq with
  | zero => intro _; rfl
  | succ mq ih =>
    intro h
    show pOut fq (nq + 1) mq + pIn fq mq (nq + 1) = pOut fq nq mq + pIn fq mq nq + (mI2 fq nq mq + _)
    have h2 : pIn fq mq (nq + 1) = pIn fq mq nq + (if mq < nq ∧ fq nq < fq mq then 1 else 0) := rfl
    rw [ih (by omega), h2]
    by_cases h3 : fq nq < fq mq
    · rw [if_pos ⟨by omega, h3⟩, if_pos h3]; omega
    · rw [if_neg (fun hh => h3 hh.2), if_neg h3]; omega
theorem wO_eq {fq : Nat → Int32} : ∀ nq, wO fq nq = pOut fq nq nq := by
  intro nq
  induction nq with
  | zero => rfl
  | succ nq ih =>
    show wO fq nq + mI2 fq nq nq = pOut fq (nq + 1) nq + pIn fq nq (nq + 1)
    rw [pIn_0 (nq + 1) (Nat.le_refl _), pOut_s nq (Nat.le_refl _), ih]; omega
section QA
variable {so : Nat → Nat} {g : pwG} {bq jr : Nat} {sc : Nat → Int32} {Rq : Nat → Nat → Int32} {w : pwW} {Aq Bq : TA} {nq sq kq : Nat} {pq rq tq uq : Int32} {fq hq : Nat → Int32}
theorem n_wr19 {ac ii : Nat} (hi : ii < 10) : ∀ dq jj, jj + dq = ii → pwX so 148 19 [some (.ref bq), some (.ref (bq + jr)), some (.int (zN (ac + mI2 (Rq 7) ii jj))), some (.int (zN ii)), some (.int (zN jj))] [] g (mkM bq sc Rq w) = pwX so 148 9 [some (.ref bq), some (.ref (bq + jr)), some (.int (zN (ac + mI2 (Rq 7) ii ii))), some (.int (zN (ii + 1))), some (.int (zN ii))] [] g (mkM bq sc Rq w) := by
  intro dq
  induction dq with
  | zero =>
    intro jj e1
    have e1 : jj = ii := by omega
    subst e1
    simp (disch := omega) only [s_X8_wrong_19, s_X8_wrong_21, s_X8_wrong_22, s_X8_wrong_55, s_X8_wrong_58, ↓mg0, ↓mg1, ↓mg2, ↓mg3, ↓mg4, ↓mg5, ↓mg6, ↓mg7, ↓mg8, ↓mg9, ↓mg10, ↓mg11, ↓mg12, ↓mg13, ↓mg14, ↓mp0, ↓mp5, ↓mp11, ↓mp12, ↓mp13, ↓mp14, ↓ml1, ↓ml2, ↓ml3, ↓ml4, ↓ml5, ↓ml7, ↓ml8, ↓ml9, ↓mlr, ↓mt1, ↓mt2, ↓mt3, ↓mt4, ↓mt5, ↓mt7, ↓mt8, ↓mt9, ↓mlz, ↓mtz, mm_i, cond_true, cond_false, qAv, qAn, qV_vv, qV_s, qV_n, qU_s, qU_n, zN_neg1, nL0, nL1, nL2, nL3, nL4, nL5, nL6, nL7, nL8, nL9, nL10, nL11, nL12, nL13, nL14, nL20, nL21, nL22, nL23, nL25, nL32, nL33, nL39, nL40, nL43, nL44, nL99, nL100, nL120, nL216, nL217, nL218, nL219, nL220, nL221, nL500, nL999, nL1000, nL10000, nL100000, sh33, zN_lt, zN_le, zN_eq, zN_ge0, zN_lt0, zN_nm, zN_mn, zN_mlt, zN_ltm, zN_lem, zN_mle, zN_m1, zN_m2, zN_addm, zN_ofNat, zN_beq, zN_add, zN_sub, zN_mul, zN_rem, qT_lt, qF_lt, qT_le, qF_le, qT_eq, qF_eq, ↓reduceIte, and_true, true_and, false_and, and_false, not_true_eq_false, not_false_eq_true, decide_true, decide_false, Bool.true_or, Bool.or_true, Bool.false_or, Bool.or_false, cond_true, cond_false]
  | succ dq ih =>
    intro jj e1
    rw [← ih (jj + 1) (by omega), s_X8_wrong_19]
    by_cases h4 : Rq 7 ii < Rq 7 jj
    · rw [show mI2 (Rq 7) ii (jj + 1) = mI2 (Rq 7) ii jj + 1 from by show mI2 (Rq 7) ii jj + _ = _; rw [if_pos h4]]
      have h6 := Int32.not_le.mpr h4
      simp (disch := omega) only [s_X8_wrong_21, s_X8_wrong_22, s_X8_wrong_25, s_X8_wrong_26, s_X8_wrong_27, s_X8_wrong_30, s_X8_wrong_32, s_X8_wrong_33, s_X8_wrong_34, s_X8_wrong_37, s_X8_wrong_38, s_X8_wrong_39, s_X8_wrong_42, s_X8_wrong_43, s_X8_wrong_46, s_X8_wrong_47, s_X8_wrong_48, s_X8_wrong_49, s_X8_wrong_52, ↓mg0, ↓mg1, ↓mg2, ↓mg3, ↓mg4, ↓mg5, ↓mg6, ↓mg7, ↓mg8, ↓mg9, ↓mg10, ↓mg11, ↓mg12, ↓mg13, ↓mg14, ↓mp0, ↓mp5, ↓mp11, ↓mp12, ↓mp13, ↓mp14, ↓ml1, ↓ml2, ↓ml3, ↓ml4, ↓ml5, ↓ml7, ↓ml8, ↓ml9, ↓mlr, ↓mt1, ↓mt2, ↓mt3, ↓mt4, ↓mt5, ↓mt7, ↓mt8, ↓mt9, ↓mlz, ↓mtz, mm_i, cond_true, cond_false, qAv, qAn, qV_vv, qV_s, qV_n, qU_s, qU_n, zN_neg1, nL0, nL1, nL2, nL3, nL4, nL5, nL6, nL7, nL8, nL9, nL10, nL11, nL12, nL13, nL14, nL20, nL21, nL22, nL23, nL25, nL32, nL33, nL39, nL40, nL43, nL44, nL99, nL100, nL120, nL216, nL217, nL218, nL219, nL220, nL221, nL500, nL999, nL1000, nL10000, nL100000, sh33, zN_lt, zN_le, zN_eq, zN_ge0, zN_lt0, zN_nm, zN_mn, zN_mlt, zN_ltm, zN_lem, zN_mle, zN_m1, zN_m2, zN_addm, zN_ofNat, zN_beq, zN_add, zN_sub, zN_mul, zN_rem, qT_lt, qF_lt, qT_le, qF_le, qT_eq, qF_eq, ↓reduceIte, and_true, true_and, false_and, and_false, not_true_eq_false, not_false_eq_true, decide_true, decide_false, Bool.true_or, Bool.or_true, Bool.false_or, Bool.or_false, cond_true, cond_false, h6]
      rfl
    · rw [show mI2 (Rq 7) ii (jj + 1) = mI2 (Rq 7) ii jj from by show mI2 (Rq 7) ii jj + _ = _; rw [if_neg h4]; rfl]
      have h6 := Int32.not_lt.mp h4
      simp (disch := omega) only [s_X8_wrong_21, s_X8_wrong_22, s_X8_wrong_25, s_X8_wrong_26, s_X8_wrong_27, s_X8_wrong_30, s_X8_wrong_32, s_X8_wrong_33, s_X8_wrong_34, s_X8_wrong_37, s_X8_wrong_38, s_X8_wrong_39, s_X8_wrong_42, s_X8_wrong_43, s_X8_wrong_46, s_X8_wrong_47, s_X8_wrong_48, s_X8_wrong_49, s_X8_wrong_52, ↓mg0, ↓mg1, ↓mg2, ↓mg3, ↓mg4, ↓mg5, ↓mg6, ↓mg7, ↓mg8, ↓mg9, ↓mg10, ↓mg11, ↓mg12, ↓mg13, ↓mg14, ↓mp0, ↓mp5, ↓mp11, ↓mp12, ↓mp13, ↓mp14, ↓ml1, ↓ml2, ↓ml3, ↓ml4, ↓ml5, ↓ml7, ↓ml8, ↓ml9, ↓mlr, ↓mt1, ↓mt2, ↓mt3, ↓mt4, ↓mt5, ↓mt7, ↓mt8, ↓mt9, ↓mlz, ↓mtz, mm_i, cond_true, cond_false, qAv, qAn, qV_vv, qV_s, qV_n, qU_s, qU_n, zN_neg1, nL0, nL1, nL2, nL3, nL4, nL5, nL6, nL7, nL8, nL9, nL10, nL11, nL12, nL13, nL14, nL20, nL21, nL22, nL23, nL25, nL32, nL33, nL39, nL40, nL43, nL44, nL99, nL100, nL120, nL216, nL217, nL218, nL219, nL220, nL221, nL500, nL999, nL1000, nL10000, nL100000, sh33, zN_lt, zN_le, zN_eq, zN_ge0, zN_lt0, zN_nm, zN_mn, zN_mlt, zN_ltm, zN_lem, zN_mle, zN_m1, zN_m2, zN_addm, zN_ofNat, zN_beq, zN_add, zN_sub, zN_mul, zN_rem, qT_lt, qF_lt, qT_le, qF_le, qT_eq, qF_eq, ↓reduceIte, and_true, true_and, false_and, and_false, not_true_eq_false, not_false_eq_true, decide_true, decide_false, Bool.true_or, Bool.or_true, Bool.false_or, Bool.or_false, cond_true, cond_false, h6, Nat.add_zero]
theorem n_wr9 (h1 : 1 ≤ jr) (h3 : jr ≤ 3) (hn : Rq jr 0 = zN nq) (hq : nq ≤ 10) : ∀ dq ii (o4 : Option Value), ii + dq = nq → pwX so 148 9 [some (.ref bq), some (.ref (bq + jr)), some (.int (zN (wO (Rq 7) ii))), some (.int (zN ii)), o4] [] g (mkM bq sc Rq w) = some (.inl (some (.int (zN (wO (Rq 7) nq)))), g, (mkM bq sc Rq w)) := by
  intro dq
  induction dq with
  | zero =>
    intro ii o4 e1
    have e1 : ii = nq := by omega
    subst e1
    simp (disch := omega) only [s_X8_wrong_9, s_X8_wrong_10, s_X8_wrong_11, s_X8_wrong_12, s_X8_wrong_13, s_X8_wrong_61, s_X8_wrong_62, ↓mg0, ↓mg1, ↓mg2, ↓mg3, ↓mg4, ↓mg5, ↓mg6, ↓mg7, ↓mg8, ↓mg9, ↓mg10, ↓mg11, ↓mg12, ↓mg13, ↓mg14, ↓mp0, ↓mp5, ↓mp11, ↓mp12, ↓mp13, ↓mp14, ↓ml1, ↓ml2, ↓ml3, ↓ml4, ↓ml5, ↓ml7, ↓ml8, ↓ml9, ↓mlr, ↓mt1, ↓mt2, ↓mt3, ↓mt4, ↓mt5, ↓mt7, ↓mt8, ↓mt9, ↓mlz, ↓mtz, mm_i, cond_true, cond_false, qAv, qAn, qV_vv, qV_s, qV_n, qU_s, qU_n, zN_neg1, nL0, nL1, nL2, nL3, nL4, nL5, nL6, nL7, nL8, nL9, nL10, nL11, nL12, nL13, nL14, nL20, nL21, nL22, nL23, nL25, nL32, nL33, nL39, nL40, nL43, nL44, nL99, nL100, nL120, nL216, nL217, nL218, nL219, nL220, nL221, nL500, nL999, nL1000, nL10000, nL100000, sh33, zN_lt, zN_le, zN_eq, zN_ge0, zN_lt0, zN_nm, zN_mn, zN_mlt, zN_ltm, zN_lem, zN_mle, zN_m1, zN_m2, zN_addm, zN_ofNat, zN_beq, zN_add, zN_sub, zN_mul, zN_rem, qT_lt, qF_lt, qT_le, qF_le, qT_eq, qF_eq, ↓reduceIte, and_true, true_and, false_and, and_false, not_true_eq_false, not_false_eq_true, decide_true, decide_false, Bool.true_or, Bool.or_true, Bool.false_or, Bool.or_false, cond_true, cond_false, hn]
  | succ dq ih =>
    intro ii o4 e1
    have e3 := @n_wr19 so g bq jr sc Rq w (wO (Rq 7) ii) ii (by omega) ii 0 (by omega)
    have e4 := ih (ii + 1) (some (.int (zN ii))) (by omega)
    rw [s_X8_wrong_9]
    simp (disch := omega) only [s_X8_wrong_10, s_X8_wrong_11, s_X8_wrong_12, s_X8_wrong_13, s_X8_wrong_16, s_X8_wrong_17, ↓mg0, ↓mg1, ↓mg2, ↓mg3, ↓mg4, ↓mg5, ↓mg6, ↓mg7, ↓mg8, ↓mg9, ↓mg10, ↓mg11, ↓mg12, ↓mg13, ↓mg14, ↓mp0, ↓mp5, ↓mp11, ↓mp12, ↓mp13, ↓mp14, ↓ml1, ↓ml2, ↓ml3, ↓ml4, ↓ml5, ↓ml7, ↓ml8, ↓ml9, ↓mlr, ↓mt1, ↓mt2, ↓mt3, ↓mt4, ↓mt5, ↓mt7, ↓mt8, ↓mt9, ↓mlz, ↓mtz, mm_i, cond_true, cond_false, qAv, qAn, qV_vv, qV_s, qV_n, qU_s, qU_n, zN_neg1, nL0, nL1, nL2, nL3, nL4, nL5, nL6, nL7, nL8, nL9, nL10, nL11, nL12, nL13, nL14, nL20, nL21, nL22, nL23, nL25, nL32, nL33, nL39, nL40, nL43, nL44, nL99, nL100, nL120, nL216, nL217, nL218, nL219, nL220, nL221, nL500, nL999, nL1000, nL10000, nL100000, sh33, zN_lt, zN_le, zN_eq, zN_ge0, zN_lt0, zN_nm, zN_mn, zN_mlt, zN_ltm, zN_lem, zN_mle, zN_m1, zN_m2, zN_addm, zN_ofNat, zN_beq, zN_add, zN_sub, zN_mul, zN_rem, qT_lt, qF_lt, qT_le, qF_le, qT_eq, qF_eq, ↓reduceIte, and_true, true_and, false_and, and_false, not_true_eq_false, not_false_eq_true, decide_true, decide_false, Bool.true_or, Bool.or_true, Bool.false_or, Bool.or_false, cond_true, cond_false, hn]
    exact e3.trans e4
theorem n_wrong (h1 : 1 ≤ jr) (h3 : jr ≤ 3) (hI : invT Aq) (hz : repM Aq (Rq jr)) : ∃ f7 : Nat → Int32, pwX so 148 0 [some (.ref bq), some (.ref (bq + jr)), none, none, none] [] g (mkM bq sc Rq w) = some (.inl (some (.int (zN (aWr Aq)))), g, (mkM bq sc (va_up Rq 7 f7) w)) := by
  have h4 := hI.1
  obtain ⟨f7, a1, a2⟩ := @n_layFile so g bq jr sc Rq w Aq h1 h3 hI hz
  have hn : (va_up Rq 7 f7) jr 0 = zN (tN Aq 1) := by rw [qV_n (by omega)]; exact hz.1.1
  have b := @n_wr9 so g bq jr sc (va_up Rq 7 f7) w (tN Aq 1) h1 h3 hn h4.2.1 (tN Aq 1) 0 none (by omega)
  have e : wO ((va_up Rq 7 f7) 7) (tN Aq 1) = aWr Aq := by
    rw [qV_s, wO_eq]
    exact pOut_eq (fun jq hj => a1 jq hj) _ (Nat.le_refl _)
  rw [e] at b
  refine ⟨f7, ?_⟩
  simp (disch := omega) only [s_X8_wrong_0, s_X8_wrong_1, s_X8_wrong_2, s_X8_wrong_5, s_X8_wrong_6, s_X8_wrong_7, s_X8_wrong_8, ↓mg0, ↓mg1, ↓mg2, ↓mg3, ↓mg4, ↓mg5, ↓mg6, ↓mg7, ↓mg8, ↓mg9, ↓mg10, ↓mg11, ↓mg12, ↓mg13, ↓mg14, ↓mp0, ↓mp5, ↓mp11, ↓mp12, ↓mp13, ↓mp14, ↓ml1, ↓ml2, ↓ml3, ↓ml4, ↓ml5, ↓ml7, ↓ml8, ↓ml9, ↓mlr, ↓mt1, ↓mt2, ↓mt3, ↓mt4, ↓mt5, ↓mt7, ↓mt8, ↓mt9, ↓mlz, ↓mtz, mm_i, cond_true, cond_false, qAv, qAn, zN_neg1, nL0, nL1, nL2, nL3, nL4, nL5, nL6, nL7, nL8, nL9, nL10, nL11, nL12, nL13, nL14, nL20, nL21, nL22, nL23, nL25, nL32, nL33, nL39, nL40, nL43, nL44, nL99, nL100, nL120, nL216, nL217, nL218, nL219, nL220, nL221, nL500, nL999, nL1000, nL10000, nL100000, a2]
  exact b
theorem n_rt9 (h1 : 1 ≤ jr) (h3 : jr ≤ 3) (hI : invT Aq) (hz : repM Aq (Rq jr)) (hf : ∀ iq, iq < tN Aq 1 → Rq 7 iq = zN (wF Aq iq)) : ∀ dq ii, ii + dq = tN Aq 1 → pwX so 150 9 [some (.ref bq), some (.ref (bq + jr)), some (.int (zN (qC (fun iq => decide (tE Aq (wF Aq iq) = tE Aq iq)) ii))), some (.int (zN ii))] [] g (mkM bq sc Rq w) = some (.inl (some (.int (zN (aRt Aq)))), g, (mkM bq sc Rq w)) := by
  have h4 := hI.1
  have hn := hz.1.1
  intro dq
  induction dq with
  | zero =>
    intro ii e1
    have e1 : ii = tN Aq 1 := by omega
    subst e1
    simp (disch := omega) only [s_X8_right_9, s_X8_right_10, s_X8_right_11, s_X8_right_12, s_X8_right_13, s_X8_right_48, s_X8_right_49, ↓mg0, ↓mg1, ↓mg2, ↓mg3, ↓mg4, ↓mg5, ↓mg6, ↓mg7, ↓mg8, ↓mg9, ↓mg10, ↓mg11, ↓mg12, ↓mg13, ↓mg14, ↓mp0, ↓mp5, ↓mp11, ↓mp12, ↓mp13, ↓mp14, ↓ml1, ↓ml2, ↓ml3, ↓ml4, ↓ml5, ↓ml7, ↓ml8, ↓ml9, ↓mlr, ↓mt1, ↓mt2, ↓mt3, ↓mt4, ↓mt5, ↓mt7, ↓mt8, ↓mt9, ↓mlz, ↓mtz, mm_i, cond_true, cond_false, qAv, qAn, qV_vv, qV_s, qV_n, qU_s, qU_n, zN_neg1, nL0, nL1, nL2, nL3, nL4, nL5, nL6, nL7, nL8, nL9, nL10, nL11, nL12, nL13, nL14, nL20, nL21, nL22, nL23, nL25, nL32, nL33, nL39, nL40, nL43, nL44, nL99, nL100, nL120, nL216, nL217, nL218, nL219, nL220, nL221, nL500, nL999, nL1000, nL10000, nL100000, sh33, zN_lt, zN_le, zN_eq, zN_ge0, zN_lt0, zN_nm, zN_mn, zN_mlt, zN_ltm, zN_lem, zN_mle, zN_m1, zN_m2, zN_addm, zN_ofNat, zN_beq, zN_add, zN_sub, zN_mul, zN_rem, qT_lt, qF_lt, qT_le, qF_le, qT_eq, qF_eq, ↓reduceIte, and_true, true_and, false_and, and_false, not_true_eq_false, not_false_eq_true, decide_true, decide_false, Bool.true_or, Bool.or_true, Bool.false_or, Bool.or_false, cond_true, cond_false, hn, aRt]
  | succ dq ih =>
    intro ii e1
    have h5 := ih (ii + 1) (by omega)
    have e2 := (wF_get hI (iq := ii) (by omega)).2
    have e3 := (hz.2.1 _ e2).1
    have e4 := (hz.2.1 ii (by omega)).1
    have e5 := hf ii (by omega)
    rw [s_X8_right_9]
    by_cases h6 : tE Aq (wF Aq ii) = tE Aq ii
    · rw [qC_s (by exact decide_eq_true h6)] at h5
      simp (disch := omega) only [s_X8_right_10, s_X8_right_11, s_X8_right_12, s_X8_right_13, s_X8_right_16, s_X8_right_17, s_X8_right_18, s_X8_right_19, s_X8_right_20, s_X8_right_23, s_X8_right_24, s_X8_right_25, s_X8_right_26, s_X8_right_27, s_X8_right_28, s_X8_right_29, s_X8_right_30, s_X8_right_31, s_X8_right_32, s_X8_right_35, s_X8_right_36, s_X8_right_39, s_X8_right_40, s_X8_right_41, s_X8_right_42, s_X8_right_45, ↓mg0, ↓mg1, ↓mg2, ↓mg3, ↓mg4, ↓mg5, ↓mg6, ↓mg7, ↓mg8, ↓mg9, ↓mg10, ↓mg11, ↓mg12, ↓mg13, ↓mg14, ↓mp0, ↓mp5, ↓mp11, ↓mp12, ↓mp13, ↓mp14, ↓ml1, ↓ml2, ↓ml3, ↓ml4, ↓ml5, ↓ml7, ↓ml8, ↓ml9, ↓mlr, ↓mt1, ↓mt2, ↓mt3, ↓mt4, ↓mt5, ↓mt7, ↓mt8, ↓mt9, ↓mlz, ↓mtz, mm_i, cond_true, cond_false, qAv, qAn, qV_vv, qV_s, qV_n, qU_s, qU_n, zN_neg1, nL0, nL1, nL2, nL3, nL4, nL5, nL6, nL7, nL8, nL9, nL10, nL11, nL12, nL13, nL14, nL20, nL21, nL22, nL23, nL25, nL32, nL33, nL39, nL40, nL43, nL44, nL99, nL100, nL120, nL216, nL217, nL218, nL219, nL220, nL221, nL500, nL999, nL1000, nL10000, nL100000, sh33, zN_lt, zN_le, zN_eq, zN_ge0, zN_lt0, zN_nm, zN_mn, zN_mlt, zN_ltm, zN_lem, zN_mle, zN_m1, zN_m2, zN_addm, zN_ofNat, zN_beq, zN_add, zN_sub, zN_mul, zN_rem, qT_lt, qF_lt, qT_le, qF_le, qT_eq, qF_eq, ↓reduceIte, and_true, true_and, false_and, and_false, not_true_eq_false, not_false_eq_true, decide_true, decide_false, Bool.true_or, Bool.or_true, Bool.false_or, Bool.or_false, cond_true, cond_false, hn, e3, e4, e5, h6]
      exact h5
    · rw [qC_f (by exact decide_eq_false h6)] at h5
      simp (disch := omega) only [s_X8_right_10, s_X8_right_11, s_X8_right_12, s_X8_right_13, s_X8_right_16, s_X8_right_17, s_X8_right_18, s_X8_right_19, s_X8_right_20, s_X8_right_23, s_X8_right_24, s_X8_right_25, s_X8_right_26, s_X8_right_27, s_X8_right_28, s_X8_right_29, s_X8_right_30, s_X8_right_31, s_X8_right_32, s_X8_right_35, s_X8_right_36, s_X8_right_39, s_X8_right_40, s_X8_right_41, s_X8_right_42, s_X8_right_45, ↓mg0, ↓mg1, ↓mg2, ↓mg3, ↓mg4, ↓mg5, ↓mg6, ↓mg7, ↓mg8, ↓mg9, ↓mg10, ↓mg11, ↓mg12, ↓mg13, ↓mg14, ↓mp0, ↓mp5, ↓mp11, ↓mp12, ↓mp13, ↓mp14, ↓ml1, ↓ml2, ↓ml3, ↓ml4, ↓ml5, ↓ml7, ↓ml8, ↓ml9, ↓mlr, ↓mt1, ↓mt2, ↓mt3, ↓mt4, ↓mt5, ↓mt7, ↓mt8, ↓mt9, ↓mlz, ↓mtz, mm_i, cond_true, cond_false, qAv, qAn, qV_vv, qV_s, qV_n, qU_s, qU_n, zN_neg1, nL0, nL1, nL2, nL3, nL4, nL5, nL6, nL7, nL8, nL9, nL10, nL11, nL12, nL13, nL14, nL20, nL21, nL22, nL23, nL25, nL32, nL33, nL39, nL40, nL43, nL44, nL99, nL100, nL120, nL216, nL217, nL218, nL219, nL220, nL221, nL500, nL999, nL1000, nL10000, nL100000, sh33, zN_lt, zN_le, zN_eq, zN_ge0, zN_lt0, zN_nm, zN_mn, zN_mlt, zN_ltm, zN_lem, zN_mle, zN_m1, zN_m2, zN_addm, zN_ofNat, zN_beq, zN_add, zN_sub, zN_mul, zN_rem, qT_lt, qF_lt, qT_le, qF_le, qT_eq, qF_eq, ↓reduceIte, and_true, true_and, false_and, and_false, not_true_eq_false, not_false_eq_true, decide_true, decide_false, Bool.true_or, Bool.or_true, Bool.false_or, Bool.or_false, cond_true, cond_false, hn, e3, e4, e5, h6, Nat.add_zero]
      exact h5
theorem n_right (h1 : 1 ≤ jr) (h3 : jr ≤ 3) (hI : invT Aq) (hz : repM Aq (Rq jr)) : ∃ f7 : Nat → Int32, pwX so 150 0 [some (.ref bq), some (.ref (bq + jr)), none, none] [] g (mkM bq sc Rq w) = some (.inl (some (.int (zN (aRt Aq)))), g, (mkM bq sc (va_up Rq 7 f7) w)) := by
  have h4 := hI.1
  obtain ⟨f7, a1, a2⟩ := @n_layFile so g bq jr sc Rq w Aq h1 h3 hI hz
  have b := @n_rt9 so g bq jr sc (va_up Rq 7 f7) w Aq h1 h3 hI (by rw [qV_n (by omega)]; exact hz) (fun iq hi => by rw [qV_s]; exact a1 iq hi) (tN Aq 1) 0 (by omega)
  refine ⟨f7, ?_⟩
  simp (disch := omega) only [s_X8_right_0, s_X8_right_1, s_X8_right_2, s_X8_right_5, s_X8_right_6, s_X8_right_7, s_X8_right_8, ↓mg0, ↓mg1, ↓mg2, ↓mg3, ↓mg4, ↓mg5, ↓mg6, ↓mg7, ↓mg8, ↓mg9, ↓mg10, ↓mg11, ↓mg12, ↓mg13, ↓mg14, ↓mp0, ↓mp5, ↓mp11, ↓mp12, ↓mp13, ↓mp14, ↓ml1, ↓ml2, ↓ml3, ↓ml4, ↓ml5, ↓ml7, ↓ml8, ↓ml9, ↓mlr, ↓mt1, ↓mt2, ↓mt3, ↓mt4, ↓mt5, ↓mt7, ↓mt8, ↓mt9, ↓mlz, ↓mtz, mm_i, cond_true, cond_false, qAv, qAn, zN_neg1, nL0, nL1, nL2, nL3, nL4, nL5, nL6, nL7, nL8, nL9, nL10, nL11, nL12, nL13, nL14, nL20, nL21, nL22, nL23, nL25, nL32, nL33, nL39, nL40, nL43, nL44, nL99, nL100, nL120, nL216, nL217, nL218, nL219, nL220, nL221, nL500, nL999, nL1000, nL10000, nL100000, a2]
  exact b
theorem n_lg26 {mo pz : Nat} (h1 : 1 ≤ jr) (h3 : jr ≤ 3) (hp : pz < 10) (hfl : ∀ iq, iq ≤ pz → Rq 7 iq = zN (wF Aq iq)) (hw : ∀ iq, wF Aq iq < 10) : ∀ dq jj (r8 : Nat → Int32), jj + dq = pz → (∀ iq, iq < pz → r8 iq = zN (rA (wF Aq) pz iq)) → r8 pz = zN (rIn (wF Aq) (rA (wF Aq) pz) pz jj) → ∃ r9 : Nat → Int32, (∀ iq, iq < pz → r9 iq = zN (rA (wF Aq) pz iq)) ∧ r9 pz = zN (rIn (wF Aq) (rA (wF Aq) pz) pz pz) ∧ pwX so 149 26 [some (.ref bq), some (.ref (bq + jr)), some (.int (zN mo)), some (.int (zN pz)), some (.int (zN jj))] [] g (mkM bq sc (va_up Rq 8 r8) w) = pwX so 149 26 [some (.ref bq), some (.ref (bq + jr)), some (.int (zN mo)), some (.int (zN pz)), some (.int (zN pz))] [] g (mkM bq sc (va_up Rq 8 r9) w) := by
  intro dq
  induction dq with
  | zero =>
    intro jj r8 e1 hf hr
    have e1 : jj = pz := by omega
    subst e1
    exact ⟨r8, hf, hr, rfl⟩
  | succ dq ih =>
    intro jj r8 e1 hf hr
    have hb1 := @rIn_le (wF Aq) (rA (wF Aq) pz) pz pz (rA_le pz) jj
    have hb2 := @rA_le (wF Aq) pz jj
    have e2 := hfl jj (by omega)
    have e3 := hfl pz (Nat.le_refl _)
    have w1 := hw jj
    have w2 := hw pz
    have h5 := hf jj (by omega)
    by_cases h6 : wF Aq jj < wF Aq pz
    · by_cases h7 : rIn (wF Aq) (rA (wF Aq) pz) pz jj ≤ rA (wF Aq) pz jj
      · have hx : rIn (wF Aq) (rA (wF Aq) pz) pz (jj + 1) = rA (wF Aq) pz jj + 1 := by
          show (if wF Aq jj < wF Aq pz then max _ _ else _) = _
          rw [if_pos h6]; exact Nat.max_eq_right (by omega)
        obtain ⟨r9, i1, i2, i3⟩ := ih (jj + 1) (upd r8 pz (zN (rA (wF Aq) pz jj + 1))) (by omega) (fun iq hq => by rw [qU_n (by omega)]; exact hf iq hq) (by rw [qU_s, hx])
        refine ⟨r9, i1, i2, ?_⟩
        rw [← i3]
        conv => lhs; rw [s_X8_longest_26]
        simp (disch := omega) only [s_X8_longest_0, s_X8_longest_1, s_X8_longest_2, s_X8_longest_5, s_X8_longest_6, s_X8_longest_7, s_X8_longest_8, s_X8_longest_9, s_X8_longest_10, s_X8_longest_11, s_X8_longest_12, s_X8_longest_13, s_X8_longest_16, s_X8_longest_17, s_X8_longest_20, s_X8_longest_21, s_X8_longest_22, s_X8_longest_23, s_X8_longest_24, s_X8_longest_28, s_X8_longest_29, s_X8_longest_32, s_X8_longest_33, s_X8_longest_36, s_X8_longest_37, s_X8_longest_38, s_X8_longest_41, s_X8_longest_43, s_X8_longest_44, s_X8_longest_45, s_X8_longest_48, s_X8_longest_49, s_X8_longest_50, s_X8_longest_53, s_X8_longest_54, s_X8_longest_57, s_X8_longest_59, s_X8_longest_60, s_X8_longest_61, s_X8_longest_64, s_X8_longest_65, s_X8_longest_66, s_X8_longest_69, s_X8_longest_70, s_X8_longest_73, s_X8_longest_75, s_X8_longest_76, s_X8_longest_77, s_X8_longest_78, s_X8_longest_81, s_X8_longest_82, s_X8_longest_85, s_X8_longest_86, s_X8_longest_87, s_X8_longest_88, s_X8_longest_91, s_X8_longest_94, s_X8_longest_95, s_X8_longest_98, s_X8_longest_99, s_X8_longest_100, s_X8_longest_101, s_X8_longest_104, s_X8_longest_105, s_X8_longest_108, s_X8_longest_109, s_X8_longest_110, s_X8_longest_113, s_X8_longest_114, s_X8_longest_115, s_X8_longest_118, s_X8_longest_121, s_X8_longest_122, ↓mg0, ↓mg1, ↓mg2, ↓mg3, ↓mg4, ↓mg5, ↓mg6, ↓mg7, ↓mg8, ↓mg9, ↓mg10, ↓mg11, ↓mg12, ↓mg13, ↓mg14, ↓mp0, ↓mp5, ↓mp11, ↓mp12, ↓mp13, ↓mp14, ↓ml1, ↓ml2, ↓ml3, ↓ml4, ↓ml5, ↓ml7, ↓ml8, ↓ml9, ↓mlr, ↓mt1, ↓mt2, ↓mt3, ↓mt4, ↓mt5, ↓mt7, ↓mt8, ↓mt9, ↓mlz, ↓mtz, mm_i, cond_true, cond_false, qAv, qAn, qV_vv, qV_s, qV_n, qU_s, qU_n, zN_neg1, nL0, nL1, nL2, nL3, nL4, nL5, nL6, nL7, nL8, nL9, nL10, nL11, nL12, nL13, nL14, nL20, nL21, nL22, nL23, nL25, nL32, nL33, nL39, nL40, nL43, nL44, nL99, nL100, nL120, nL216, nL217, nL218, nL219, nL220, nL221, nL500, nL999, nL1000, nL10000, nL100000, sh33, zN_lt, zN_le, zN_eq, zN_ge0, zN_lt0, zN_nm, zN_mn, zN_mlt, zN_ltm, zN_lem, zN_mle, zN_m1, zN_m2, zN_addm, zN_ofNat, zN_beq, zN_add, zN_sub, zN_mul, zN_rem, qT_lt, qF_lt, qT_le, qF_le, qT_eq, qF_eq, ↓reduceIte, and_true, true_and, false_and, and_false, not_true_eq_false, not_false_eq_true, decide_true, decide_false, Bool.true_or, Bool.or_true, Bool.false_or, Bool.or_false, cond_true, cond_false, e2, e3, h5, hr]
      · have hx : rIn (wF Aq) (rA (wF Aq) pz) pz (jj + 1) = rIn (wF Aq) (rA (wF Aq) pz) pz jj := by
          show (if wF Aq jj < wF Aq pz then max _ _ else _) = _
          rw [if_pos h6]; exact Nat.max_eq_left (by omega)
        obtain ⟨r9, i1, i2, i3⟩ := ih (jj + 1) (upd r8 pz (zN (rIn (wF Aq) (rA (wF Aq) pz) pz jj))) (by omega) (fun iq hq => by rw [qU_n (by omega)]; exact hf iq hq) (by rw [qU_s, hx])
        refine ⟨r9, i1, i2, ?_⟩
        rw [← i3]
        conv => lhs; rw [s_X8_longest_26]
        simp (disch := omega) only [s_X8_longest_0, s_X8_longest_1, s_X8_longest_2, s_X8_longest_5, s_X8_longest_6, s_X8_longest_7, s_X8_longest_8, s_X8_longest_9, s_X8_longest_10, s_X8_longest_11, s_X8_longest_12, s_X8_longest_13, s_X8_longest_16, s_X8_longest_17, s_X8_longest_20, s_X8_longest_21, s_X8_longest_22, s_X8_longest_23, s_X8_longest_24, s_X8_longest_28, s_X8_longest_29, s_X8_longest_32, s_X8_longest_33, s_X8_longest_36, s_X8_longest_37, s_X8_longest_38, s_X8_longest_41, s_X8_longest_43, s_X8_longest_44, s_X8_longest_45, s_X8_longest_48, s_X8_longest_49, s_X8_longest_50, s_X8_longest_53, s_X8_longest_54, s_X8_longest_57, s_X8_longest_59, s_X8_longest_60, s_X8_longest_61, s_X8_longest_64, s_X8_longest_65, s_X8_longest_66, s_X8_longest_69, s_X8_longest_70, s_X8_longest_73, s_X8_longest_75, s_X8_longest_76, s_X8_longest_77, s_X8_longest_78, s_X8_longest_81, s_X8_longest_82, s_X8_longest_85, s_X8_longest_86, s_X8_longest_87, s_X8_longest_88, s_X8_longest_91, s_X8_longest_94, s_X8_longest_95, s_X8_longest_98, s_X8_longest_99, s_X8_longest_100, s_X8_longest_101, s_X8_longest_104, s_X8_longest_105, s_X8_longest_108, s_X8_longest_109, s_X8_longest_110, s_X8_longest_113, s_X8_longest_114, s_X8_longest_115, s_X8_longest_118, s_X8_longest_121, s_X8_longest_122, ↓mg0, ↓mg1, ↓mg2, ↓mg3, ↓mg4, ↓mg5, ↓mg6, ↓mg7, ↓mg8, ↓mg9, ↓mg10, ↓mg11, ↓mg12, ↓mg13, ↓mg14, ↓mp0, ↓mp5, ↓mp11, ↓mp12, ↓mp13, ↓mp14, ↓ml1, ↓ml2, ↓ml3, ↓ml4, ↓ml5, ↓ml7, ↓ml8, ↓ml9, ↓mlr, ↓mt1, ↓mt2, ↓mt3, ↓mt4, ↓mt5, ↓mt7, ↓mt8, ↓mt9, ↓mlz, ↓mtz, mm_i, cond_true, cond_false, qAv, qAn, qV_vv, qV_s, qV_n, qU_s, qU_n, zN_neg1, nL0, nL1, nL2, nL3, nL4, nL5, nL6, nL7, nL8, nL9, nL10, nL11, nL12, nL13, nL14, nL20, nL21, nL22, nL23, nL25, nL32, nL33, nL39, nL40, nL43, nL44, nL99, nL100, nL120, nL216, nL217, nL218, nL219, nL220, nL221, nL500, nL999, nL1000, nL10000, nL100000, sh33, zN_lt, zN_le, zN_eq, zN_ge0, zN_lt0, zN_nm, zN_mn, zN_mlt, zN_ltm, zN_lem, zN_mle, zN_m1, zN_m2, zN_addm, zN_ofNat, zN_beq, zN_add, zN_sub, zN_mul, zN_rem, qT_lt, qF_lt, qT_le, qF_le, qT_eq, qF_eq, ↓reduceIte, and_true, true_and, false_and, and_false, not_true_eq_false, not_false_eq_true, decide_true, decide_false, Bool.true_or, Bool.or_true, Bool.false_or, Bool.or_false, cond_true, cond_false, e2, e3, h5, hr]
    · have hx : rIn (wF Aq) (rA (wF Aq) pz) pz (jj + 1) = rIn (wF Aq) (rA (wF Aq) pz) pz jj := if_neg h6
      obtain ⟨r9, i1, i2, i3⟩ := ih (jj + 1) (upd r8 pz (zN (rIn (wF Aq) (rA (wF Aq) pz) pz jj))) (by omega) (fun iq hq => by rw [qU_n (by omega)]; exact hf iq hq) (by rw [qU_s, hx])
      refine ⟨r9, i1, i2, ?_⟩
      rw [← i3]
      conv => lhs; rw [s_X8_longest_26]
      simp (disch := omega) only [s_X8_longest_0, s_X8_longest_1, s_X8_longest_2, s_X8_longest_5, s_X8_longest_6, s_X8_longest_7, s_X8_longest_8, s_X8_longest_9, s_X8_longest_10, s_X8_longest_11, s_X8_longest_12, s_X8_longest_13, s_X8_longest_16, s_X8_longest_17, s_X8_longest_20, s_X8_longest_21, s_X8_longest_22, s_X8_longest_23, s_X8_longest_24, s_X8_longest_28, s_X8_longest_29, s_X8_longest_32, s_X8_longest_33, s_X8_longest_36, s_X8_longest_37, s_X8_longest_38, s_X8_longest_41, s_X8_longest_43, s_X8_longest_44, s_X8_longest_45, s_X8_longest_48, s_X8_longest_49, s_X8_longest_50, s_X8_longest_53, s_X8_longest_54, s_X8_longest_57, s_X8_longest_59, s_X8_longest_60, s_X8_longest_61, s_X8_longest_64, s_X8_longest_65, s_X8_longest_66, s_X8_longest_69, s_X8_longest_70, s_X8_longest_73, s_X8_longest_75, s_X8_longest_76, s_X8_longest_77, s_X8_longest_78, s_X8_longest_81, s_X8_longest_82, s_X8_longest_85, s_X8_longest_86, s_X8_longest_87, s_X8_longest_88, s_X8_longest_91, s_X8_longest_94, s_X8_longest_95, s_X8_longest_98, s_X8_longest_99, s_X8_longest_100, s_X8_longest_101, s_X8_longest_104, s_X8_longest_105, s_X8_longest_108, s_X8_longest_109, s_X8_longest_110, s_X8_longest_113, s_X8_longest_114, s_X8_longest_115, s_X8_longest_118, s_X8_longest_121, s_X8_longest_122, ↓mg0, ↓mg1, ↓mg2, ↓mg3, ↓mg4, ↓mg5, ↓mg6, ↓mg7, ↓mg8, ↓mg9, ↓mg10, ↓mg11, ↓mg12, ↓mg13, ↓mg14, ↓mp0, ↓mp5, ↓mp11, ↓mp12, ↓mp13, ↓mp14, ↓ml1, ↓ml2, ↓ml3, ↓ml4, ↓ml5, ↓ml7, ↓ml8, ↓ml9, ↓mlr, ↓mt1, ↓mt2, ↓mt3, ↓mt4, ↓mt5, ↓mt7, ↓mt8, ↓mt9, ↓mlz, ↓mtz, mm_i, cond_true, cond_false, qAv, qAn, qV_vv, qV_s, qV_n, qU_s, qU_n, zN_neg1, nL0, nL1, nL2, nL3, nL4, nL5, nL6, nL7, nL8, nL9, nL10, nL11, nL12, nL13, nL14, nL20, nL21, nL22, nL23, nL25, nL32, nL33, nL39, nL40, nL43, nL44, nL99, nL100, nL120, nL216, nL217, nL218, nL219, nL220, nL221, nL500, nL999, nL1000, nL10000, nL100000, sh33, zN_lt, zN_le, zN_eq, zN_ge0, zN_lt0, zN_nm, zN_mn, zN_mlt, zN_ltm, zN_lem, zN_mle, zN_m1, zN_m2, zN_addm, zN_ofNat, zN_beq, zN_add, zN_sub, zN_mul, zN_rem, qT_lt, qF_lt, qT_le, qF_le, qT_eq, qF_eq, ↓reduceIte, and_true, true_and, false_and, and_false, not_true_eq_false, not_false_eq_true, decide_true, decide_false, Bool.true_or, Bool.or_true, Bool.false_or, Bool.or_false, cond_true, cond_false, e2, e3, h5, hr]
theorem n_lg9 (h1 : 1 ≤ jr) (h3 : jr ≤ 3) (hI : invT Aq) (hn : Rq jr 0 = zN (tN Aq 1)) (hfl : ∀ iq, iq < tN Aq 1 → Rq 7 iq = zN (wF Aq iq)) : ∀ dq pz (r8 : Nat → Int32) (o4 : Option Value), pz + dq = tN Aq 1 → (∀ iq, iq < pz → r8 iq = zN (rA (wF Aq) pz iq)) → ∃ r9 : Nat → Int32, pwX so 149 9 [some (.ref bq), some (.ref (bq + jr)), some (.int (zN (rLo (wF Aq) pz))), some (.int (zN pz)), o4] [] g (mkM bq sc (va_up Rq 8 r8) w) = some (.inl (some (.int (zN (rLo (wF Aq) (tN Aq 1))))), g, (mkM bq sc (va_up Rq 8 r9) w)) := by
  have h4 := hI.1
  intro dq
  induction dq with
  | zero =>
    intro pz r8 o4 e1 hf
    have e1 : pz = tN Aq 1 := by omega
    subst e1
    refine ⟨r8, ?_⟩
    simp (disch := omega) only [s_X8_longest_9, s_X8_longest_10, s_X8_longest_11, s_X8_longest_12, s_X8_longest_13, s_X8_longest_121, s_X8_longest_122, ↓mg0, ↓mg1, ↓mg2, ↓mg3, ↓mg4, ↓mg5, ↓mg6, ↓mg7, ↓mg8, ↓mg9, ↓mg10, ↓mg11, ↓mg12, ↓mg13, ↓mg14, ↓mp0, ↓mp5, ↓mp11, ↓mp12, ↓mp13, ↓mp14, ↓ml1, ↓ml2, ↓ml3, ↓ml4, ↓ml5, ↓ml7, ↓ml8, ↓ml9, ↓mlr, ↓mt1, ↓mt2, ↓mt3, ↓mt4, ↓mt5, ↓mt7, ↓mt8, ↓mt9, ↓mlz, ↓mtz, mm_i, cond_true, cond_false, qAv, qAn, qV_vv, qV_s, qV_n, qU_s, qU_n, zN_neg1, nL0, nL1, nL2, nL3, nL4, nL5, nL6, nL7, nL8, nL9, nL10, nL11, nL12, nL13, nL14, nL20, nL21, nL22, nL23, nL25, nL32, nL33, nL39, nL40, nL43, nL44, nL99, nL100, nL120, nL216, nL217, nL218, nL219, nL220, nL221, nL500, nL999, nL1000, nL10000, nL100000, sh33, zN_lt, zN_le, zN_eq, zN_ge0, zN_lt0, zN_nm, zN_mn, zN_mlt, zN_ltm, zN_lem, zN_mle, zN_m1, zN_m2, zN_addm, zN_ofNat, zN_beq, zN_add, zN_sub, zN_mul, zN_rem, qT_lt, qF_lt, qT_le, qF_le, qT_eq, qF_eq, ↓reduceIte, and_true, true_and, false_and, and_false, not_true_eq_false, not_false_eq_true, decide_true, decide_false, Bool.true_or, Bool.or_true, Bool.false_or, Bool.or_false, cond_true, cond_false, hn]
  | succ dq ih =>
    intro pz r8 o4 e1 hf
    have hb1 := @rIn_le (wF Aq) (rA (wF Aq) pz) pz pz (rA_le pz) pz
    have hb2 := @rLo_le (wF Aq) pz
    obtain ⟨r9, i1, i2, i3⟩ := @n_lg26 so g bq jr sc Rq w Aq (rLo (wF Aq) pz) pz h1 h3 (by omega) (fun iq hq => hfl iq (by omega)) (wF_lt hI) pz 0 (upd r8 pz (zN 1)) (by omega) (fun iq hq => by rw [qU_n (by omega)]; exact hf iq hq) (by rw [qU_s]; rfl)
    obtain ⟨ra, j1⟩ := ih (pz + 1) r9 (some (.int (zN pz))) (by omega) (fun iq hq => by
      show r9 iq = zN (va_up (rA (wF Aq) pz) pz (rIn (wF Aq) (rA (wF Aq) pz) pz pz) iq)
      by_cases hx : iq = pz
      · subst hx; rw [va_up_self]; exact i2
      · rw [va_up_ne _ _ hx]; exact i1 iq (by omega))
    refine ⟨ra, ?_⟩
    rw [← j1, show rLo (wF Aq) (pz + 1) = max (rLo (wF Aq) pz) (rIn (wF Aq) (rA (wF Aq) pz) pz pz) from rfl, s_X8_longest_9]
    simp (disch := omega) only [s_X8_longest_10, s_X8_longest_11, s_X8_longest_12, s_X8_longest_13, s_X8_longest_16, s_X8_longest_17, s_X8_longest_20, s_X8_longest_21, s_X8_longest_22, s_X8_longest_23, s_X8_longest_24, ↓mg0, ↓mg1, ↓mg2, ↓mg3, ↓mg4, ↓mg5, ↓mg6, ↓mg7, ↓mg8, ↓mg9, ↓mg10, ↓mg11, ↓mg12, ↓mg13, ↓mg14, ↓mp0, ↓mp5, ↓mp11, ↓mp12, ↓mp13, ↓mp14, ↓ml1, ↓ml2, ↓ml3, ↓ml4, ↓ml5, ↓ml7, ↓ml8, ↓ml9, ↓mlr, ↓mt1, ↓mt2, ↓mt3, ↓mt4, ↓mt5, ↓mt7, ↓mt8, ↓mt9, ↓mlz, ↓mtz, mm_i, cond_true, cond_false, qAv, qAn, qV_vv, qV_s, qV_n, qU_s, qU_n, zN_neg1, nL0, nL1, nL2, nL3, nL4, nL5, nL6, nL7, nL8, nL9, nL10, nL11, nL12, nL13, nL14, nL20, nL21, nL22, nL23, nL25, nL32, nL33, nL39, nL40, nL43, nL44, nL99, nL100, nL120, nL216, nL217, nL218, nL219, nL220, nL221, nL500, nL999, nL1000, nL10000, nL100000, sh33, zN_lt, zN_le, zN_eq, zN_ge0, zN_lt0, zN_nm, zN_mn, zN_mlt, zN_ltm, zN_lem, zN_mle, zN_m1, zN_m2, zN_addm, zN_ofNat, zN_beq, zN_add, zN_sub, zN_mul, zN_rem, qT_lt, qF_lt, qT_le, qF_le, qT_eq, qF_eq, ↓reduceIte, and_true, true_and, false_and, and_false, not_true_eq_false, not_false_eq_true, decide_true, decide_false, Bool.true_or, Bool.or_true, Bool.false_or, Bool.or_false, cond_true, cond_false, hn]
    rw [i3, s_X8_longest_26]
    by_cases h6 : rLo (wF Aq) pz < rIn (wF Aq) (rA (wF Aq) pz) pz pz
    · rw [Nat.max_eq_right (Nat.le_of_lt h6)]
      simp (disch := omega) only [s_X8_longest_0, s_X8_longest_1, s_X8_longest_2, s_X8_longest_5, s_X8_longest_6, s_X8_longest_7, s_X8_longest_8, s_X8_longest_10, s_X8_longest_11, s_X8_longest_12, s_X8_longest_13, s_X8_longest_16, s_X8_longest_17, s_X8_longest_20, s_X8_longest_21, s_X8_longest_22, s_X8_longest_23, s_X8_longest_24, s_X8_longest_28, s_X8_longest_29, s_X8_longest_32, s_X8_longest_33, s_X8_longest_36, s_X8_longest_37, s_X8_longest_38, s_X8_longest_41, s_X8_longest_43, s_X8_longest_44, s_X8_longest_45, s_X8_longest_48, s_X8_longest_49, s_X8_longest_50, s_X8_longest_53, s_X8_longest_54, s_X8_longest_57, s_X8_longest_59, s_X8_longest_60, s_X8_longest_61, s_X8_longest_64, s_X8_longest_65, s_X8_longest_66, s_X8_longest_69, s_X8_longest_70, s_X8_longest_73, s_X8_longest_75, s_X8_longest_76, s_X8_longest_77, s_X8_longest_78, s_X8_longest_81, s_X8_longest_82, s_X8_longest_85, s_X8_longest_86, s_X8_longest_87, s_X8_longest_88, s_X8_longest_91, s_X8_longest_94, s_X8_longest_95, s_X8_longest_98, s_X8_longest_99, s_X8_longest_100, s_X8_longest_101, s_X8_longest_104, s_X8_longest_105, s_X8_longest_108, s_X8_longest_109, s_X8_longest_110, s_X8_longest_113, s_X8_longest_114, s_X8_longest_115, s_X8_longest_118, s_X8_longest_121, s_X8_longest_122, ↓mg0, ↓mg1, ↓mg2, ↓mg3, ↓mg4, ↓mg5, ↓mg6, ↓mg7, ↓mg8, ↓mg9, ↓mg10, ↓mg11, ↓mg12, ↓mg13, ↓mg14, ↓mp0, ↓mp5, ↓mp11, ↓mp12, ↓mp13, ↓mp14, ↓ml1, ↓ml2, ↓ml3, ↓ml4, ↓ml5, ↓ml7, ↓ml8, ↓ml9, ↓mlr, ↓mt1, ↓mt2, ↓mt3, ↓mt4, ↓mt5, ↓mt7, ↓mt8, ↓mt9, ↓mlz, ↓mtz, mm_i, cond_true, cond_false, qAv, qAn, qV_vv, qV_s, qV_n, qU_s, qU_n, zN_neg1, nL0, nL1, nL2, nL3, nL4, nL5, nL6, nL7, nL8, nL9, nL10, nL11, nL12, nL13, nL14, nL20, nL21, nL22, nL23, nL25, nL32, nL33, nL39, nL40, nL43, nL44, nL99, nL100, nL120, nL216, nL217, nL218, nL219, nL220, nL221, nL500, nL999, nL1000, nL10000, nL100000, sh33, zN_lt, zN_le, zN_eq, zN_ge0, zN_lt0, zN_nm, zN_mn, zN_mlt, zN_ltm, zN_lem, zN_mle, zN_m1, zN_m2, zN_addm, zN_ofNat, zN_beq, zN_add, zN_sub, zN_mul, zN_rem, qT_lt, qF_lt, qT_le, qF_le, qT_eq, qF_eq, ↓reduceIte, and_true, true_and, false_and, and_false, not_true_eq_false, not_false_eq_true, decide_true, decide_false, Bool.true_or, Bool.or_true, Bool.false_or, Bool.or_false, cond_true, cond_false, i2]
    · rw [Nat.max_eq_left (by omega)]
      simp (disch := omega) only [s_X8_longest_0, s_X8_longest_1, s_X8_longest_2, s_X8_longest_5, s_X8_longest_6, s_X8_longest_7, s_X8_longest_8, s_X8_longest_10, s_X8_longest_11, s_X8_longest_12, s_X8_longest_13, s_X8_longest_16, s_X8_longest_17, s_X8_longest_20, s_X8_longest_21, s_X8_longest_22, s_X8_longest_23, s_X8_longest_24, s_X8_longest_28, s_X8_longest_29, s_X8_longest_32, s_X8_longest_33, s_X8_longest_36, s_X8_longest_37, s_X8_longest_38, s_X8_longest_41, s_X8_longest_43, s_X8_longest_44, s_X8_longest_45, s_X8_longest_48, s_X8_longest_49, s_X8_longest_50, s_X8_longest_53, s_X8_longest_54, s_X8_longest_57, s_X8_longest_59, s_X8_longest_60, s_X8_longest_61, s_X8_longest_64, s_X8_longest_65, s_X8_longest_66, s_X8_longest_69, s_X8_longest_70, s_X8_longest_73, s_X8_longest_75, s_X8_longest_76, s_X8_longest_77, s_X8_longest_78, s_X8_longest_81, s_X8_longest_82, s_X8_longest_85, s_X8_longest_86, s_X8_longest_87, s_X8_longest_88, s_X8_longest_91, s_X8_longest_94, s_X8_longest_95, s_X8_longest_98, s_X8_longest_99, s_X8_longest_100, s_X8_longest_101, s_X8_longest_104, s_X8_longest_105, s_X8_longest_108, s_X8_longest_109, s_X8_longest_110, s_X8_longest_113, s_X8_longest_114, s_X8_longest_115, s_X8_longest_118, s_X8_longest_121, s_X8_longest_122, ↓mg0, ↓mg1, ↓mg2, ↓mg3, ↓mg4, ↓mg5, ↓mg6, ↓mg7, ↓mg8, ↓mg9, ↓mg10, ↓mg11, ↓mg12, ↓mg13, ↓mg14, ↓mp0, ↓mp5, ↓mp11, ↓mp12, ↓mp13, ↓mp14, ↓ml1, ↓ml2, ↓ml3, ↓ml4, ↓ml5, ↓ml7, ↓ml8, ↓ml9, ↓mlr, ↓mt1, ↓mt2, ↓mt3, ↓mt4, ↓mt5, ↓mt7, ↓mt8, ↓mt9, ↓mlz, ↓mtz, mm_i, cond_true, cond_false, qAv, qAn, qV_vv, qV_s, qV_n, qU_s, qU_n, zN_neg1, nL0, nL1, nL2, nL3, nL4, nL5, nL6, nL7, nL8, nL9, nL10, nL11, nL12, nL13, nL14, nL20, nL21, nL22, nL23, nL25, nL32, nL33, nL39, nL40, nL43, nL44, nL99, nL100, nL120, nL216, nL217, nL218, nL219, nL220, nL221, nL500, nL999, nL1000, nL10000, nL100000, sh33, zN_lt, zN_le, zN_eq, zN_ge0, zN_lt0, zN_nm, zN_mn, zN_mlt, zN_ltm, zN_lem, zN_mle, zN_m1, zN_m2, zN_addm, zN_ofNat, zN_beq, zN_add, zN_sub, zN_mul, zN_rem, qT_lt, qF_lt, qT_le, qF_le, qT_eq, qF_eq, ↓reduceIte, and_true, true_and, false_and, and_false, not_true_eq_false, not_false_eq_true, decide_true, decide_false, Bool.true_or, Bool.or_true, Bool.false_or, Bool.or_false, cond_true, cond_false, i2]
theorem n_longest (h1 : 1 ≤ jr) (h3 : jr ≤ 3) (hI : invT Aq) (hz : repM Aq (Rq jr)) : ∃ f7 f8 : Nat → Int32, pwX so 149 0 [some (.ref bq), some (.ref (bq + jr)), none, none, none] [] g (mkM bq sc Rq w) = some (.inl (some (.int (zN (rLo (wF Aq) (tN Aq 1))))), g, (mkM bq sc (va_up (va_up Rq 7 f7) 8 f8) w)) := by
  have h4 := hI.1
  obtain ⟨f7, a1, a2⟩ := @n_layFile so g bq jr sc Rq w Aq h1 h3 hI hz
  have hn : (va_up Rq 7 f7) jr 0 = zN (tN Aq 1) := by rw [qV_n (by omega)]; exact hz.1.1
  obtain ⟨r9, b⟩ := @n_lg9 so g bq jr sc (va_up Rq 7 f7) w Aq h1 h3 hI hn (fun iq hi => by rw [qV_s]; exact a1 iq hi) (tN Aq 1) 0 (va_up Rq 7 f7 8) none (by omega) (fun iq h => absurd h (Nat.not_lt_zero _))
  have e0 : ∀ Rz : Nat → Nat → Int32, va_up Rz 8 (Rz 8) = Rz := fun Rz => funext fun jq => by unfold va_up; split <;> simp_all
  rw [e0] at b
  refine ⟨f7, r9, ?_⟩
  simp (disch := omega) only [s_X8_longest_0, s_X8_longest_1, s_X8_longest_2, s_X8_longest_5, s_X8_longest_6, s_X8_longest_7, s_X8_longest_8, ↓mg0, ↓mg1, ↓mg2, ↓mg3, ↓mg4, ↓mg5, ↓mg6, ↓mg7, ↓mg8, ↓mg9, ↓mg10, ↓mg11, ↓mg12, ↓mg13, ↓mg14, ↓mp0, ↓mp5, ↓mp11, ↓mp12, ↓mp13, ↓mp14, ↓ml1, ↓ml2, ↓ml3, ↓ml4, ↓ml5, ↓ml7, ↓ml8, ↓ml9, ↓mlr, ↓mt1, ↓mt2, ↓mt3, ↓mt4, ↓mt5, ↓mt7, ↓mt8, ↓mt9, ↓mlz, ↓mtz, mm_i, cond_true, cond_false, qAv, qAn, zN_neg1, nL0, nL1, nL2, nL3, nL4, nL5, nL6, nL7, nL8, nL9, nL10, nL11, nL12, nL13, nL14, nL20, nL21, nL22, nL23, nL25, nL32, nL33, nL39, nL40, nL43, nL44, nL99, nL100, nL120, nL216, nL217, nL218, nL219, nL220, nL221, nL500, nL999, nL1000, nL10000, nL100000, a2]
  exact b
end QA

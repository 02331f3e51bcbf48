/-! the pure part: the model remembers, takes back, saves, restores -/
def bkS (fq : Nat → Int32) (nq : Nat) : Nat → Int32 := fun jq => if jq < nq then fq (221 + jq) else fq jq
def cpB (fq hq : Nat → Int32) (oz nq : Nat) : Nat → Int32 := fun jq => if oz ≤ jq ∧ jq < oz + nq then hq (jq - oz) else fq jq
def cpG (fq hq : Nat → Int32) (oz nq : Nat) : Nat → Int32 := fun jq => if jq < nq then hq (oz + jq) else fq jq
theorem nL2873 : (2873 : Int32) = zN 2873 := rfl
section QA
variable {so : Nat → Nat} {g : pwG} {bq : Nat} {w : pwW} {Fq : FS} {pq kq rq tq uq : Int32} {Aq Bq : TA} {sc s1 : Nat → Int32} {Rq R1 : Nat → Nat → Int32} {fq hq : Nat → Int32} {k9 o9 nq oz st : Nat}
theorem bkS_0 : bkS fq 0 = fq := by funext iq; exact if_neg (Nat.not_lt_zero _)
theorem bkS_v : bkS fq nq (221 + nq) = fq (221 + nq) := if_neg (by omega)
theorem bkS_s : upd (bkS fq nq) nq (fq (221 + nq)) = bkS fq (nq + 1) := by
  funext iq; unfold upd bkS
  by_cases h : iq = nq
  · subst h; rw [if_pos rfl, if_pos (by omega)]
  · rw [if_neg h]
    by_cases h2 : iq < nq
    · rw [if_pos h2, if_pos (by omega)]
    · rw [if_neg h2, if_neg (by omega)]
theorem cpB_0 : cpB fq hq oz 0 = fq := by funext iq; exact if_neg (by omega)
theorem cpB_s : upd (cpB fq hq oz nq) (oz + nq) (hq nq) = cpB fq hq oz (nq + 1) := by
  funext iq; unfold upd cpB
  by_cases h : iq = oz + nq
  · subst h; rw [if_pos rfl, if_pos (by omega), Nat.add_sub_cancel_left]
  · rw [if_neg h]
    by_cases h2 : oz ≤ iq ∧ iq < oz + nq
    · rw [if_pos h2, if_pos (by omega)]
    · rw [if_neg h2, if_neg (by omega)]
theorem cpB_i {iq : Nat} (h : iq < nq) : cpB fq hq oz nq (oz + iq) = hq iq := by
  unfold cpB; rw [if_pos (by omega), Nat.add_sub_cancel_left]
theorem cpB_o {iq : Nat} (h : iq < oz ∨ oz + nq ≤ iq) : cpB fq hq oz nq iq = fq iq := if_neg (by omega)
theorem cpG_0 : cpG fq hq oz 0 = fq := by funext iq; exact if_neg (Nat.not_lt_zero _)
theorem cpG_s : upd (cpG fq hq oz nq) nq (hq (oz + nq)) = cpG fq hq oz (nq + 1) := by
  funext iq; unfold upd cpG
  by_cases h : iq = nq
  · subst h; rw [if_pos rfl, if_pos (by omega)]
  · rw [if_neg h]
    by_cases h2 : iq < nq
    · rw [if_pos h2, if_pos (by omega)]
    · rw [if_neg h2, if_neg (by omega)]
theorem cpG_i {iq : Nat} (h : iq < nq) : cpG fq hq oz nq iq = hq (oz + iq) := if_pos h
theorem va_same {jz : Nat} : va_up Rq jz (Rq jz) = Rq := by
  funext jq
  by_cases h : jq = jz
  · subst h; rw [va_up_self]
  · rw [va_up_ne _ _ h]
theorem n_rm11 : ∀ dq iq, iq + dq = 2873 → pwX so 171 11 [some (.ref bq), some (.int (zN iq))] [] g (mkM bq sc (va_up Rq 4 (bkS fq iq)) w) = pwX so 171 40 [some (.ref bq), some (.int (zN 2873))] [] g (mkM bq sc (va_up Rq 4 (bkS fq 2873)) w) := by
  intro dq
  induction dq with
  | zero =>
    intro iq e1
    have e1 : iq = 2873 := by omega
    subst e1
    rw [s_X8_remember_11]
    simp (disch := omega) only [s_X8_remember_12, s_X8_remember_15, ↓mg0, ↓mg1, ↓mg2, ↓mg3, ↓mg4, ↓mg5, ↓mg6, ↓mg7, ↓mg8, ↓mg9, ↓mg10, ↓mg11, ↓mg12, ↓mg13, ↓mg14, ↓mp0, ↓mp5, ↓mp11, ↓mp12, ↓mp13, ↓mp14, ↓ml1, ↓ml2, ↓ml3, ↓ml4, ↓ml5, ↓ml7, ↓ml8, ↓ml9, ↓mlr, ↓mt1, ↓mt2, ↓mt3, ↓mt4, ↓mt5, ↓mt7, ↓mt8, ↓mt9, ↓mlz, ↓mtz, mm_i, cond_true, cond_false, qAv, qAn, qV_vv, qV_s, qV_n, qU_s, qU_n, zN_neg1, nL0, nL1, nL2, nL3, nL4, nL5, nL6, nL7, nL8, nL9, nL10, nL11, nL12, nL13, nL14, nL20, nL21, nL22, nL23, nL25, nL32, nL33, nL39, nL40, nL43, nL44, nL99, nL100, nL120, nL216, nL217, nL218, nL219, nL220, nL221, nL500, nL999, nL1000, nL10000, nL100000, sh33, zN_lt, zN_le, zN_eq, zN_ge0, zN_lt0, zN_nm, zN_mn, zN_mlt, zN_ltm, zN_lem, zN_mle, zN_m1, zN_m2, zN_addm, zN_ofNat, zN_beq, zN_add, zN_sub, zN_mul, zN_rem, qT_lt, qF_lt, qT_le, qF_le, qT_eq, qF_eq, ↓reduceIte, and_true, true_and, false_and, and_false, not_true_eq_false, not_false_eq_true, decide_true, decide_false, Bool.true_or, Bool.or_true, Bool.false_or, Bool.or_false, cond_true, cond_false, nL2873]
  | succ dq ih =>
    intro iq e1
    have h5 := ih (iq + 1) (by omega)
    rw [s_X8_remember_11]
    simp (disch := omega) only [s_X8_remember_12, s_X8_remember_15, s_X8_remember_18, s_X8_remember_19, s_X8_remember_22, s_X8_remember_23, s_X8_remember_24, s_X8_remember_27, s_X8_remember_30, s_X8_remember_31, s_X8_remember_32, s_X8_remember_33, s_X8_remember_34, s_X8_remember_37, ↓mg0, ↓mg1, ↓mg2, ↓mg3, ↓mg4, ↓mg5, ↓mg6, ↓mg7, ↓mg8, ↓mg9, ↓mg10, ↓mg11, ↓mg12, ↓mg13, ↓mg14, ↓mp0, ↓mp5, ↓mp11, ↓mp12, ↓mp13, ↓mp14, ↓ml1, ↓ml2, ↓ml3, ↓ml4, ↓ml5, ↓ml7, ↓ml8, ↓ml9, ↓mlr, ↓mt1, ↓mt2, ↓mt3, ↓mt4, ↓mt5, ↓mt7, ↓mt8, ↓mt9, ↓mlz, ↓mtz, mm_i, cond_true, cond_false, qAv, qAn, qV_vv, qV_s, qV_n, qU_s, qU_n, zN_neg1, nL0, nL1, nL2, nL3, nL4, nL5, nL6, nL7, nL8, nL9, nL10, nL11, nL12, nL13, nL14, nL20, nL21, nL22, nL23, nL25, nL32, nL33, nL39, nL40, nL43, nL44, nL99, nL100, nL120, nL216, nL217, nL218, nL219, nL220, nL221, nL500, nL999, nL1000, nL10000, nL100000, sh33, zN_lt, zN_le, zN_eq, zN_ge0, zN_lt0, zN_nm, zN_mn, zN_mlt, zN_ltm, zN_lem, zN_mle, zN_m1, zN_m2, zN_addm, zN_ofNat, zN_beq, zN_add, zN_sub, zN_mul, zN_rem, qT_lt, qF_lt, qT_le, qF_le, qT_eq, qF_eq, ↓reduceIte, and_true, true_and, false_and, and_false, not_true_eq_false, not_false_eq_true, decide_true, decide_false, Bool.true_or, Bool.or_true, Bool.false_or, Bool.or_false, cond_true, cond_false, nL2873, bkS_v, bkS_s]
    exact h5
theorem n_rm52 (hst : sc 5 = zN st) (h14 : st ≤ 13) : ∀ dq iq, iq + dq = 221 → pwX so 171 52 [some (.ref bq), some (.int (zN iq))] [] g (mkM bq sc (va_up Rq 4 (cpB fq (Rq 1) (221 * st) iq)) w) = some (.inl none, g, (mkM bq (upd sc 5 (zN (st + 1))) (va_up Rq 4 (cpB fq (Rq 1) (221 * st) 221)) w)) := by
  intro dq
  induction dq with
  | zero =>
    intro iq e1
    have e1 : iq = 221 := by omega
    subst e1
    simp (disch := omega) only [s_X8_remember_0, s_X8_remember_1, s_X8_remember_4, s_X8_remember_6, s_X8_remember_9, s_X8_remember_10, s_X8_remember_11, s_X8_remember_12, s_X8_remember_15, s_X8_remember_18, s_X8_remember_19, s_X8_remember_22, s_X8_remember_23, s_X8_remember_24, s_X8_remember_27, s_X8_remember_30, s_X8_remember_31, s_X8_remember_32, s_X8_remember_33, s_X8_remember_34, s_X8_remember_37, s_X8_remember_40, s_X8_remember_41, s_X8_remember_42, s_X8_remember_45, s_X8_remember_46, s_X8_remember_47, s_X8_remember_50, s_X8_remember_51, s_X8_remember_52, s_X8_remember_53, s_X8_remember_56, s_X8_remember_59, s_X8_remember_60, s_X8_remember_63, s_X8_remember_66, s_X8_remember_67, s_X8_remember_70, s_X8_remember_71, s_X8_remember_72, s_X8_remember_73, s_X8_remember_74, s_X8_remember_77, s_X8_remember_78, s_X8_remember_79, s_X8_remember_80, s_X8_remember_83, s_X8_remember_86, s_X8_remember_87, s_X8_remember_88, s_X8_remember_91, s_X8_remember_92, s_X8_remember_93, s_X8_remember_96, ↓mg0, ↓mg1, ↓mg2, ↓mg3, ↓mg4, ↓mg5, ↓mg6, ↓mg7, ↓mg8, ↓mg9, ↓mg10, ↓mg11, ↓mg12, ↓mg13, ↓mg14, ↓mp0, ↓mp5, ↓mp11, ↓mp12, ↓mp13, ↓mp14, ↓ml1, ↓ml2, ↓ml3, ↓ml4, ↓ml5, ↓ml7, ↓ml8, ↓ml9, ↓mlr, ↓mt1, ↓mt2, ↓mt3, ↓mt4, ↓mt5, ↓mt7, ↓mt8, ↓mt9, ↓mlz, ↓mtz, mm_i, cond_true, cond_false, qAv, qAn, qV_vv, qV_s, qV_n, qU_s, qU_n, zN_neg1, nL0, nL1, nL2, nL3, nL4, nL5, nL6, nL7, nL8, nL9, nL10, nL11, nL12, nL13, nL14, nL20, nL21, nL22, nL23, nL25, nL32, nL33, nL39, nL40, nL43, nL44, nL99, nL100, nL120, nL216, nL217, nL218, nL219, nL220, nL221, nL500, nL999, nL1000, nL10000, nL100000, sh33, zN_lt, zN_le, zN_eq, zN_ge0, zN_lt0, zN_nm, zN_mn, zN_mlt, zN_ltm, zN_lem, zN_mle, zN_m1, zN_m2, zN_addm, zN_ofNat, zN_beq, zN_add, zN_sub, zN_mul, zN_rem, qT_lt, qF_lt, qT_le, qF_le, qT_eq, qF_eq, ↓reduceIte, and_true, true_and, false_and, and_false, not_true_eq_false, not_false_eq_true, decide_true, decide_false, Bool.true_or, Bool.or_true, Bool.false_or, Bool.or_false, cond_true, cond_false, hst]
  | succ dq ih =>
    intro iq e1
    have h5 := ih (iq + 1) (by omega)
    rw [s_X8_remember_52]
    simp (disch := omega) only [s_X8_remember_53, s_X8_remember_56, s_X8_remember_59, s_X8_remember_60, s_X8_remember_63, s_X8_remember_66, s_X8_remember_67, s_X8_remember_70, s_X8_remember_71, s_X8_remember_72, s_X8_remember_73, s_X8_remember_74, s_X8_remember_77, s_X8_remember_78, s_X8_remember_79, s_X8_remember_80, s_X8_remember_83, ↓mg0, ↓mg1, ↓mg2, ↓mg3, ↓mg4, ↓mg5, ↓mg6, ↓mg7, ↓mg8, ↓mg9, ↓mg10, ↓mg11, ↓mg12, ↓mg13, ↓mg14, ↓mp0, ↓mp5, ↓mp11, ↓mp12, ↓mp13, ↓mp14, ↓ml1, ↓ml2, ↓ml3, ↓ml4, ↓ml5, ↓ml7, ↓ml8, ↓ml9, ↓mlr, ↓mt1, ↓mt2, ↓mt3, ↓mt4, ↓mt5, ↓mt7, ↓mt8, ↓mt9, ↓mlz, ↓mtz, mm_i, cond_true, cond_false, qAv, qAn, qV_vv, qV_s, qV_n, qU_s, qU_n, zN_neg1, nL0, nL1, nL2, nL3, nL4, nL5, nL6, nL7, nL8, nL9, nL10, nL11, nL12, nL13, nL14, nL20, nL21, nL22, nL23, nL25, nL32, nL33, nL39, nL40, nL43, nL44, nL99, nL100, nL120, nL216, nL217, nL218, nL219, nL220, nL221, nL500, nL999, nL1000, nL10000, nL100000, sh33, zN_lt, zN_le, zN_eq, zN_ge0, zN_lt0, zN_nm, zN_mn, zN_mlt, zN_ltm, zN_lem, zN_mle, zN_m1, zN_m2, zN_addm, zN_ofNat, zN_beq, zN_add, zN_sub, zN_mul, zN_rem, qT_lt, qF_lt, qT_le, qF_le, qT_eq, qF_eq, ↓reduceIte, and_true, true_and, false_and, and_false, not_true_eq_false, not_false_eq_true, decide_true, decide_false, Bool.true_or, Bool.or_true, Bool.false_or, Bool.or_false, cond_true, cond_false, hst, cpB_s]
    exact h5
theorem n_remember (hR : modR sc Rq Fq) : ∃ s1 R1, modR s1 R1 (Fq.1, Fq.2.1, pushH Fq.2.2.1 Fq.2.1, Fq.2.2.2) ∧ s1 0 = sc 0 ∧ pwX so 171 0 [some (.ref bq), none] [] g (mkM bq sc Rq w) = some (.inl none, g, (mkM bq s1 R1 w)) := by
  obtain ⟨⟨a1, a2⟩, ⟨b1, b2, b3⟩, a3, a4⟩ := hR
  by_cases h : Fq.2.2.1.length = 14
  · rw [h] at b1
    have c1 := @n_rm11 so g bq w (upd sc 5 (zN 14)) Rq (Rq 4) 2873 0 (by omega)
    have hsc : upd sc 5 (zN 14) = sc := by funext iq; unfold upd; by_cases hx : iq = 5; rw [if_pos hx, hx, b1]; rw [if_neg hx]
    rw [bkS_0, va_same, hsc] at c1
    have c2 := @n_rm52 so g bq w (upd sc 5 (zN 13)) (va_up Rq 4 (bkS (Rq 4) 2873)) (bkS (Rq 4) 2873) 13 rfl (by omega) 221 0 (by omega)
    rw [cpB_0, qV_vv, qV_n (show (1 : Nat) ≠ 4 by decide), qV_vv] at c2
    refine ⟨upd (upd sc 5 (zN 13)) 5 (zN 14), va_up Rq 4 (cpB (bkS (Rq 4) 2873) (Rq 1) (221 * 13) 221), ?_, ?_, ?_⟩
    rotate_left 2
    · simp (disch := omega) only [s_X8_remember_0, s_X8_remember_1, s_X8_remember_4, s_X8_remember_6, s_X8_remember_9, s_X8_remember_10, ↓mg0, ↓mg1, ↓mg2, ↓mg3, ↓mg4, ↓mg5, ↓mg6, ↓mg7, ↓mg8, ↓mg9, ↓mg10, ↓mg11, ↓mg12, ↓mg13, ↓mg14, ↓mp0, ↓mp5, ↓mp11, ↓mp12, ↓mp13, ↓mp14, ↓ml1, ↓ml2, ↓ml3, ↓ml4, ↓ml5, ↓ml7, ↓ml8, ↓ml9, ↓mlr, ↓mt1, ↓mt2, ↓mt3, ↓mt4, ↓mt5, ↓mt7, ↓mt8, ↓mt9, ↓mlz, ↓mtz, mm_i, cond_true, cond_false, qAv, qAn, qV_vv, qV_s, qV_n, qU_s, qU_n, zN_neg1, nL0, nL1, nL2, nL3, nL4, nL5, nL6, nL7, nL8, nL9, nL10, nL11, nL12, nL13, nL14, nL20, nL21, nL22, nL23, nL25, nL32, nL33, nL39, nL40, nL43, nL44, nL99, nL100, nL120, nL216, nL217, nL218, nL219, nL220, nL221, nL500, nL999, nL1000, nL10000, nL100000, sh33, zN_lt, zN_le, zN_eq, zN_ge0, zN_lt0, zN_nm, zN_mn, zN_mlt, zN_ltm, zN_lem, zN_mle, zN_m1, zN_m2, zN_addm, zN_ofNat, zN_beq, zN_add, zN_sub, zN_mul, zN_rem, qT_lt, qF_lt, qT_le, qF_le, qT_eq, qF_eq, ↓reduceIte, and_true, true_and, false_and, and_false, not_true_eq_false, not_false_eq_true, decide_true, decide_false, Bool.true_or, Bool.or_true, Bool.false_or, Bool.or_false, cond_true, cond_false, b1]
      rw [c1]
      simp (disch := omega) only [s_X8_remember_40, s_X8_remember_41, s_X8_remember_42, s_X8_remember_45, s_X8_remember_46, s_X8_remember_47, s_X8_remember_50, s_X8_remember_51, ↓mg0, ↓mg1, ↓mg2, ↓mg3, ↓mg4, ↓mg5, ↓mg6, ↓mg7, ↓mg8, ↓mg9, ↓mg10, ↓mg11, ↓mg12, ↓mg13, ↓mg14, ↓mp0, ↓mp5, ↓mp11, ↓mp12, ↓mp13, ↓mp14, ↓ml1, ↓ml2, ↓ml3, ↓ml4, ↓ml5, ↓ml7, ↓ml8, ↓ml9, ↓mlr, ↓mt1, ↓mt2, ↓mt3, ↓mt4, ↓mt5, ↓mt7, ↓mt8, ↓mt9, ↓mlz, ↓mtz, mm_i, cond_true, cond_false, qAv, qAn, qV_vv, qV_s, qV_n, qU_s, qU_n, zN_neg1, nL0, nL1, nL2, nL3, nL4, nL5, nL6, nL7, nL8, nL9, nL10, nL11, nL12, nL13, nL14, nL20, nL21, nL22, nL23, nL25, nL32, nL33, nL39, nL40, nL43, nL44, nL99, nL100, nL120, nL216, nL217, nL218, nL219, nL220, nL221, nL500, nL999, nL1000, nL10000, nL100000, sh33, zN_lt, zN_le, zN_eq, zN_ge0, zN_lt0, zN_nm, zN_mn, zN_mlt, zN_ltm, zN_lem, zN_mle, zN_m1, zN_m2, zN_addm, zN_ofNat, zN_beq, zN_add, zN_sub, zN_mul, zN_rem, qT_lt, qF_lt, qT_le, qF_le, qT_eq, qF_eq, ↓reduceIte, and_true, true_and, false_and, and_false, not_true_eq_false, not_false_eq_true, decide_true, decide_false, Bool.true_or, Bool.or_true, Bool.false_or, Bool.or_false, cond_true, cond_false, b1]
      exact c2
    · unfold modR
      rw [qV_n (show (1 : Nat) ≠ 4 by decide), qV_n (show (5 : Nat) ≠ 4 by decide), qV_n (show (6 : Nat) ≠ 4 by decide), qV_n (show (9 : Nat) ≠ 4 by decide), qV_s]
      have hp : pushH Fq.2.2.1 Fq.2.1 = Fq.2.2.1.tail ++ [Fq.2.1] := if_pos h
      have hl : (Fq.2.2.1.tail ++ [Fq.2.1]).length = 14 := by rw [List.length_append, List.length_tail, h]; rfl
      refine ⟨⟨a1, a2⟩, ⟨?_, ?_, ?_⟩, a3, a4⟩
      · dsimp only; rw [hp, hl]; rfl
      · dsimp only; rw [hp, hl]; exact Nat.le_refl _
      · intro iq A9 h9
        dsimp only at h9
        rw [hp] at h9
        have hi : iq < 14 := by rw [← hl]; exact (List.getElem?_eq_some_iff.mp h9).1
        by_cases h13 : iq = 13
        · subst h13
          rw [List.getElem?_append_right (by rw [List.length_tail, h]; decide), List.length_tail, h] at h9
          cases h9
          exact ⟨a1, repM_cong a1 a2 (fun jq hj => cpB_i hj)⟩
        · rw [List.getElem?_append_left (by rw [List.length_tail, h]; omega), List.getElem?_tail] at h9
          obtain ⟨d1, d2⟩ := b3 (iq + 1) A9 h9
          refine ⟨d1, repM_cong d1 d2 (fun jq hj => ?_)⟩
          rw [cpB_o (Or.inl (by omega))]
          unfold bkS
          rw [if_pos (by omega), show 221 + (221 * iq + jq) = 221 * (iq + 1) + jq by omega]
    · rfl
  · have c2 := @n_rm52 so g bq w sc Rq (Rq 4) _ b1 (by omega) 221 0 (by omega)
    rw [cpB_0, va_same] at c2
    have n14 : (Fq.2.2.1.length = 14) = False := eq_false h
    refine ⟨upd sc 5 (zN (Fq.2.2.1.length + 1)), va_up Rq 4 (cpB (Rq 4) (Rq 1) (221 * Fq.2.2.1.length) 221), ?_, ?_, ?_⟩
    rotate_left 2
    · simp (disch := omega) only [s_X8_remember_0, s_X8_remember_1, s_X8_remember_4, s_X8_remember_6, s_X8_remember_50, s_X8_remember_51, ↓mg0, ↓mg1, ↓mg2, ↓mg3, ↓mg4, ↓mg5, ↓mg6, ↓mg7, ↓mg8, ↓mg9, ↓mg10, ↓mg11, ↓mg12, ↓mg13, ↓mg14, ↓mp0, ↓mp5, ↓mp11, ↓mp12, ↓mp13, ↓mp14, ↓ml1, ↓ml2, ↓ml3, ↓ml4, ↓ml5, ↓ml7, ↓ml8, ↓ml9, ↓mlr, ↓mt1, ↓mt2, ↓mt3, ↓mt4, ↓mt5, ↓mt7, ↓mt8, ↓mt9, ↓mlz, ↓mtz, mm_i, cond_true, cond_false, qAv, qAn, qV_vv, qV_s, qV_n, qU_s, qU_n, zN_neg1, nL0, nL1, nL2, nL3, nL4, nL5, nL6, nL7, nL8, nL9, nL10, nL11, nL12, nL13, nL14, nL20, nL21, nL22, nL23, nL25, nL32, nL33, nL39, nL40, nL43, nL44, nL99, nL100, nL120, nL216, nL217, nL218, nL219, nL220, nL221, nL500, nL999, nL1000, nL10000, nL100000, sh33, zN_lt, zN_le, zN_eq, zN_ge0, zN_lt0, zN_nm, zN_mn, zN_mlt, zN_ltm, zN_lem, zN_mle, zN_m1, zN_m2, zN_addm, zN_ofNat, zN_beq, zN_add, zN_sub, zN_mul, zN_rem, qT_lt, qF_lt, qT_le, qF_le, qT_eq, qF_eq, ↓reduceIte, and_true, true_and, false_and, and_false, not_true_eq_false, not_false_eq_true, decide_true, decide_false, Bool.true_or, Bool.or_true, Bool.false_or, Bool.or_false, cond_true, cond_false, b1, n14]
      exact c2
    · unfold modR
      rw [qV_n (show (1 : Nat) ≠ 4 by decide), qV_n (show (5 : Nat) ≠ 4 by decide), qV_n (show (6 : Nat) ≠ 4 by decide), qV_n (show (9 : Nat) ≠ 4 by decide), qV_s]
      have hp : pushH Fq.2.2.1 Fq.2.1 = Fq.2.2.1 ++ [Fq.2.1] := if_neg h
      have hl : (Fq.2.2.1 ++ [Fq.2.1]).length = Fq.2.2.1.length + 1 := List.length_append
      refine ⟨⟨a1, a2⟩, ⟨?_, ?_, ?_⟩, a3, a4⟩
      · dsimp only; rw [hp, hl]; rfl
      · dsimp only; rw [hp, hl]; omega
      · intro iq A9 h9
        dsimp only at h9
        rw [hp] at h9
        have hi : iq < Fq.2.2.1.length + 1 := by rw [← hl]; exact (List.getElem?_eq_some_iff.mp h9).1
        by_cases h13 : iq = Fq.2.2.1.length
        · subst h13
          rw [List.getElem?_append_right (Nat.le_refl _), Nat.sub_self] at h9
          cases h9
          exact ⟨a1, repM_cong a1 a2 (fun jq hj => cpB_i hj)⟩
        · rw [List.getElem?_append_left (by omega)] at h9
          obtain ⟨d1, d2⟩ := b3 iq A9 h9
          refine ⟨d1, repM_cong d1 d2 (fun jq hj => ?_)⟩
          rw [cpB_o (Or.inl (by omega))]
    · rfl
theorem n_un33 (hst : sc 5 = zN st) (h14 : st ≤ 13) : ∀ dq iq, iq + dq = 221 → pwX so 203 33 [some (.ref bq), some (.int (zN iq))] [] g (mkM bq sc (va_up Rq 1 (cpG fq (Rq 4) (221 * st) iq)) w) = some (.inl (some (.int (zN st))), g, (mkM bq sc (va_up Rq 1 (cpG fq (Rq 4) (221 * st) 221)) w)) := by
  intro dq
  induction dq with
  | zero =>
    intro iq e1
    have e1 : iq = 221 := by omega
    subst e1
    simp (disch := omega) only [s_X8_undo_0, s_X8_undo_1, s_X8_undo_2, s_X8_undo_5, s_X8_undo_8, s_X8_undo_9, s_X8_undo_12, s_X8_undo_13, s_X8_undo_16, s_X8_undo_19, s_X8_undo_20, s_X8_undo_21, s_X8_undo_22, s_X8_undo_23, s_X8_undo_26, s_X8_undo_27, s_X8_undo_28, s_X8_undo_31, s_X8_undo_32, s_X8_undo_33, s_X8_undo_34, s_X8_undo_37, s_X8_undo_40, s_X8_undo_41, s_X8_undo_44, s_X8_undo_45, s_X8_undo_46, s_X8_undo_49, s_X8_undo_52, s_X8_undo_53, s_X8_undo_56, s_X8_undo_57, s_X8_undo_58, s_X8_undo_59, s_X8_undo_60, s_X8_undo_61, s_X8_undo_64, s_X8_undo_67, s_X8_undo_68, s_X8_undo_71, ↓mg0, ↓mg1, ↓mg2, ↓mg3, ↓mg4, ↓mg5, ↓mg6, ↓mg7, ↓mg8, ↓mg9, ↓mg10, ↓mg11, ↓mg12, ↓mg13, ↓mg14, ↓mp0, ↓mp5, ↓mp11, ↓mp12, ↓mp13, ↓mp14, ↓ml1, ↓ml2, ↓ml3, ↓ml4, ↓ml5, ↓ml7, ↓ml8, ↓ml9, ↓mlr, ↓mt1, ↓mt2, ↓mt3, ↓mt4, ↓mt5, ↓mt7, ↓mt8, ↓mt9, ↓mlz, ↓mtz, mm_i, cond_true, cond_false, qAv, qAn, qV_vv, qV_s, qV_n, qU_s, qU_n, zN_neg1, nL0, nL1, nL2, nL3, nL4, nL5, nL6, nL7, nL8, nL9, nL10, nL11, nL12, nL13, nL14, nL20, nL21, nL22, nL23, nL25, nL32, nL33, nL39, nL40, nL43, nL44, nL99, nL100, nL120, nL216, nL217, nL218, nL219, nL220, nL221, nL500, nL999, nL1000, nL10000, nL100000, sh33, zN_lt, zN_le, zN_eq, zN_ge0, zN_lt0, zN_nm, zN_mn, zN_mlt, zN_ltm, zN_lem, zN_mle, zN_m1, zN_m2, zN_addm, zN_ofNat, zN_beq, zN_add, zN_sub, zN_mul, zN_rem, qT_lt, qF_lt, qT_le, qF_le, qT_eq, qF_eq, ↓reduceIte, and_true, true_and, false_and, and_false, not_true_eq_false, not_false_eq_true, decide_true, decide_false, Bool.true_or, Bool.or_true, Bool.false_or, Bool.or_false, cond_true, cond_false, hst]
  | succ dq ih =>
    intro iq e1
    have h5 := ih (iq + 1) (by omega)
    rw [s_X8_undo_33]
    simp (disch := omega) only [s_X8_undo_34, s_X8_undo_37, s_X8_undo_40, s_X8_undo_41, s_X8_undo_44, s_X8_undo_45, s_X8_undo_46, s_X8_undo_49, s_X8_undo_52, s_X8_undo_53, s_X8_undo_56, s_X8_undo_57, s_X8_undo_58, s_X8_undo_59, s_X8_undo_60, s_X8_undo_61, s_X8_undo_64, ↓mg0, ↓mg1, ↓mg2, ↓mg3, ↓mg4, ↓mg5, ↓mg6, ↓mg7, ↓mg8, ↓mg9, ↓mg10, ↓mg11, ↓mg12, ↓mg13, ↓mg14, ↓mp0, ↓mp5, ↓mp11, ↓mp12, ↓mp13, ↓mp14, ↓ml1, ↓ml2, ↓ml3, ↓ml4, ↓ml5, ↓ml7, ↓ml8, ↓ml9, ↓mlr, ↓mt1, ↓mt2, ↓mt3, ↓mt4, ↓mt5, ↓mt7, ↓mt8, ↓mt9, ↓mlz, ↓mtz, mm_i, cond_true, cond_false, qAv, qAn, qV_vv, qV_s, qV_n, qU_s, qU_n, zN_neg1, nL0, nL1, nL2, nL3, nL4, nL5, nL6, nL7, nL8, nL9, nL10, nL11, nL12, nL13, nL14, nL20, nL21, nL22, nL23, nL25, nL32, nL33, nL39, nL40, nL43, nL44, nL99, nL100, nL120, nL216, nL217, nL218, nL219, nL220, nL221, nL500, nL999, nL1000, nL10000, nL100000, sh33, zN_lt, zN_le, zN_eq, zN_ge0, zN_lt0, zN_nm, zN_mn, zN_mlt, zN_ltm, zN_lem, zN_mle, zN_m1, zN_m2, zN_addm, zN_ofNat, zN_beq, zN_add, zN_sub, zN_mul, zN_rem, qT_lt, qF_lt, qT_le, qF_le, qT_eq, qF_eq, ↓reduceIte, and_true, true_and, false_and, and_false, not_true_eq_false, not_false_eq_true, decide_true, decide_false, Bool.true_or, Bool.or_true, Bool.false_or, Bool.or_false, cond_true, cond_false, hst, cpG_s]
    exact h5
theorem y_undo (hR : modR sc Rq Fq) : ∃ s1 R1, modR s1 R1 (fUndo Fq).2 ∧ s1 0 = zN (fUndo Fq).1.1 ∧ pwX so 203 0 [some (.ref bq), none] [] g (mkM bq sc Rq w) = some (.inl (some (.int ((fUndo Fq).1.2))), g, (mkM bq s1 R1 w)) := by
  have hR2 := hR
  obtain ⟨⟨a1, a2⟩, ⟨b1, b2, b3⟩, a3, a4⟩ := hR2
  unfold fUndo
  cases hr : Fq.2.2.1.reverse with
  | nil =>
    have h0 : Fq.2.2.1 = [] := List.reverse_eq_nil_iff.mp hr
    rw [h0] at b1
    have b1 : sc 5 = zN 0 := b1
    dsimp only
    refine y_ex hR ?_
    simp (disch := omega) only [s_X8_undo_0, s_X8_undo_1, s_X8_undo_2, s_X8_undo_5, s_X8_undo_8, s_X8_undo_9, s_X8_undo_12, s_X8_undo_13, s_X8_undo_16, s_X8_undo_19, s_X8_undo_20, s_X8_refused_0, s_X8_refused_1, s_X8_refused_2, s_X8_refused_5, s_X8_refused_6, s_X8_refused_9, s_X8_refused_10, s_X8_refused_13, s_X8_refused_14, ↓mg0, ↓mg1, ↓mg2, ↓mg3, ↓mg4, ↓mg5, ↓mg6, ↓mg7, ↓mg8, ↓mg9, ↓mg10, ↓mg11, ↓mg12, ↓mg13, ↓mg14, ↓mp0, ↓mp5, ↓mp11, ↓mp12, ↓mp13, ↓mp14, ↓ml1, ↓ml2, ↓ml3, ↓ml4, ↓ml5, ↓ml7, ↓ml8, ↓ml9, ↓mlr, ↓mt1, ↓mt2, ↓mt3, ↓mt4, ↓mt5, ↓mt7, ↓mt8, ↓mt9, ↓mlz, ↓mtz, mm_i, cond_true, cond_false, qAv, qAn, qV_vv, qV_s, qV_n, qU_s, qU_n, zN_neg1, nL0, nL1, nL2, nL3, nL4, nL5, nL6, nL7, nL8, nL9, nL10, nL11, nL12, nL13, nL14, nL20, nL21, nL22, nL23, nL25, nL32, nL33, nL39, nL40, nL43, nL44, nL99, nL100, nL120, nL216, nL217, nL218, nL219, nL220, nL221, nL500, nL999, nL1000, nL10000, nL100000, sh33, zN_lt, zN_le, zN_eq, zN_ge0, zN_lt0, zN_nm, zN_mn, zN_mlt, zN_ltm, zN_lem, zN_mle, zN_m1, zN_m2, zN_addm, zN_ofNat, zN_beq, zN_add, zN_sub, zN_mul, zN_rem, qT_lt, qF_lt, qT_le, qF_le, qT_eq, qF_eq, ↓reduceIte, and_true, true_and, false_and, and_false, not_true_eq_false, not_false_eq_true, decide_true, decide_false, Bool.true_or, Bool.or_true, Bool.false_or, Bool.or_false, cond_true, cond_false, qbi, qb1, qb0, b1, Option.bind_some]
  | cons A9 rs =>
    have h0 : Fq.2.2.1 = rs.reverse ++ [A9] := by rw [← List.reverse_reverse Fq.2.2.1, hr, List.reverse_cons]
    have hl : Fq.2.2.1.length = rs.reverse.length + 1 := by rw [h0]; exact List.length_append
    rw [hl] at b1 b2
    obtain ⟨d1, d2⟩ := b3 rs.reverse.length A9 (by rw [h0, List.getElem?_append_right (Nat.le_refl _), Nat.sub_self]; rfl)
    have c2 := @n_un33 so g bq w (upd (upd sc 0 (zN 0)) 5 (zN rs.reverse.length)) Rq (Rq 1) rs.reverse.length rfl (by omega) 221 0 (by omega)
    rw [cpG_0, va_same] at c2
    have hR3 : modR (upd (upd sc 0 (zN 0)) 5 (zN rs.reverse.length)) Rq (Fq.1, Fq.2.1, rs.reverse, Fq.2.2.2) := by
      refine ⟨⟨a1, a2⟩, ⟨rfl, by show rs.reverse.length ≤ 14; omega, fun iq A8 h8 => ?_⟩, a3, a4⟩
      have h8 : rs.reverse[iq]? = some A8 := h8
      have hi := (List.getElem?_eq_some_iff.mp h8).1
      exact b3 iq A8 (by rw [h0, List.getElem?_append_left hi]; exact h8)
    refine ⟨upd (upd sc 0 (zN 0)) 5 (zN rs.reverse.length), va_up Rq 1 (cpG (Rq 1) (Rq 4) (221 * rs.reverse.length) 221), modR_now hR3 d1 (repM_cong (hq := cpG (Rq 1) (Rq 4) (221 * rs.reverse.length) 221) d1 d2 (fun jq hj => cpG_i hj)), rfl, ?_⟩
    dsimp only
    rw [show rs.length = rs.reverse.length from List.length_reverse.symm]
    simp (disch := omega) only [s_X8_undo_0, s_X8_undo_1, s_X8_undo_2, s_X8_undo_5, s_X8_undo_8, s_X8_undo_9, s_X8_undo_12, s_X8_undo_13, s_X8_undo_16, s_X8_undo_19, s_X8_undo_20, s_X8_undo_21, s_X8_undo_22, s_X8_undo_23, s_X8_undo_26, s_X8_undo_27, s_X8_undo_28, s_X8_undo_31, s_X8_undo_32, s_X8_refused_0, s_X8_refused_1, s_X8_refused_2, s_X8_refused_5, s_X8_refused_6, s_X8_refused_9, s_X8_refused_10, s_X8_refused_13, s_X8_refused_14, ↓mg0, ↓mg1, ↓mg2, ↓mg3, ↓mg4, ↓mg5, ↓mg6, ↓mg7, ↓mg8, ↓mg9, ↓mg10, ↓mg11, ↓mg12, ↓mg13, ↓mg14, ↓mp0, ↓mp5, ↓mp11, ↓mp12, ↓mp13, ↓mp14, ↓ml1, ↓ml2, ↓ml3, ↓ml4, ↓ml5, ↓ml7, ↓ml8, ↓ml9, ↓mlr, ↓mt1, ↓mt2, ↓mt3, ↓mt4, ↓mt5, ↓mt7, ↓mt8, ↓mt9, ↓mlz, ↓mtz, mm_i, cond_true, cond_false, qAv, qAn, qV_vv, qV_s, qV_n, qU_s, qU_n, zN_neg1, nL0, nL1, nL2, nL3, nL4, nL5, nL6, nL7, nL8, nL9, nL10, nL11, nL12, nL13, nL14, nL20, nL21, nL22, nL23, nL25, nL32, nL33, nL39, nL40, nL43, nL44, nL99, nL100, nL120, nL216, nL217, nL218, nL219, nL220, nL221, nL500, nL999, nL1000, nL10000, nL100000, sh33, zN_lt, zN_le, zN_eq, zN_ge0, zN_lt0, zN_nm, zN_mn, zN_mlt, zN_ltm, zN_lem, zN_mle, zN_m1, zN_m2, zN_addm, zN_ofNat, zN_beq, zN_add, zN_sub, zN_mul, zN_rem, qT_lt, qF_lt, qT_le, qF_le, qT_eq, qF_eq, ↓reduceIte, and_true, true_and, false_and, and_false, not_true_eq_false, not_false_eq_true, decide_true, decide_false, Bool.true_or, Bool.or_true, Bool.false_or, Bool.or_false, cond_true, cond_false, qbi, qb1, qb0, b1, Option.bind_some, Nat.add_sub_cancel]
    exact c2
theorem n_sv26 {sl : Nat} (hs : sl ≤ 1) : ∀ dq iq, iq + dq = 221 → pwX so 218 26 [some (.ref bq), some (.int (zN sl)), some (.int (zN iq))] [] g (mkM bq sc (va_up Rq 5 (cpB fq (Rq 1) (221 * sl) iq)) w) = some (.inl (some (.int (Rq 1 218))), g, (mkM bq sc (va_up (va_up Rq 5 (cpB fq (Rq 1) (221 * sl) 221)) 6 (upd (Rq 6) sl (zN 1))) w)) := by
  have hv : (zN 1 = zN 0 ∨ zN 1 = zN 1) := Or.inr rfl
  have mz : ∀ {Rz : Nat → Nat → Int32} {hz : pwW → Option pwO}, (pwStZ (mkM bq sc Rz w) (bq + 6) (zN sl) (zN 1)).bind hz = hz (mkM bq sc (va_up Rz 6 (upd (Rz 6) sl (zN 1))) w) := mtz (by omega) hv
  intro dq
  induction dq with
  | zero =>
    intro iq e1
    have e1 : iq = 221 := by omega
    subst e1
    simp (disch := omega) only [s_X8_save_0, s_X8_save_1, s_X8_save_2, s_X8_save_3, s_X8_save_4, s_X8_save_5, s_X8_save_8, s_X8_save_11, s_X8_save_12, s_X8_save_15, s_X8_save_16, s_X8_save_19, s_X8_save_22, s_X8_save_23, s_X8_save_24, s_X8_save_25, s_X8_save_26, s_X8_save_27, s_X8_save_30, s_X8_save_33, s_X8_save_34, s_X8_save_37, s_X8_save_40, s_X8_save_41, s_X8_save_42, s_X8_save_43, s_X8_save_44, s_X8_save_45, s_X8_save_48, s_X8_save_49, s_X8_save_50, s_X8_save_51, s_X8_save_54, s_X8_save_57, s_X8_save_58, s_X8_save_61, s_X8_save_62, s_X8_save_63, s_X8_save_64, s_X8_save_65, s_X8_save_68, s_X8_save_71, s_X8_save_72, ↓mg0, ↓mg1, ↓mg2, ↓mg3, ↓mg4, ↓mg5, ↓mg6, ↓mg7, ↓mg8, ↓mg9, ↓mg10, ↓mg11, ↓mg12, ↓mg13, ↓mg14, ↓mp0, ↓mp5, ↓mp11, ↓mp12, ↓mp13, ↓mp14, ↓ml1, ↓ml2, ↓ml3, ↓ml4, ↓ml5, ↓ml7, ↓ml8, ↓ml9, ↓mlr, ↓mt1, ↓mt2, ↓mt3, ↓mt4, ↓mt5, ↓mt7, ↓mt8, ↓mt9, ↓mlz, ↓mtz, mm_i, cond_true, cond_false, qAv, qAn, qV_vv, qV_s, qV_n, qU_s, qU_n, zN_neg1, nL0, nL1, nL2, nL3, nL4, nL5, nL6, nL7, nL8, nL9, nL10, nL11, nL12, nL13, nL14, nL20, nL21, nL22, nL23, nL25, nL32, nL33, nL39, nL40, nL43, nL44, nL99, nL100, nL120, nL216, nL217, nL218, nL219, nL220, nL221, nL500, nL999, nL1000, nL10000, nL100000, sh33, zN_lt, zN_le, zN_eq, zN_ge0, zN_lt0, zN_nm, zN_mn, zN_mlt, zN_ltm, zN_lem, zN_mle, zN_m1, zN_m2, zN_addm, zN_ofNat, zN_beq, zN_add, zN_sub, zN_mul, zN_rem, qT_lt, qF_lt, qT_le, qF_le, qT_eq, qF_eq, ↓reduceIte, and_true, true_and, false_and, and_false, not_true_eq_false, not_false_eq_true, decide_true, decide_false, Bool.true_or, Bool.or_true, Bool.false_or, Bool.or_false, cond_true, cond_false, ↓mz]
  | succ dq ih =>
    intro iq e1
    have h5 := ih (iq + 1) (by omega)
    rw [s_X8_save_26]
    simp (disch := omega) only [s_X8_save_27, s_X8_save_30, s_X8_save_33, s_X8_save_34, s_X8_save_37, s_X8_save_40, s_X8_save_41, s_X8_save_42, s_X8_save_43, s_X8_save_44, s_X8_save_45, s_X8_save_48, s_X8_save_49, s_X8_save_50, s_X8_save_51, s_X8_save_54, ↓mg0, ↓mg1, ↓mg2, ↓mg3, ↓mg4, ↓mg5, ↓mg6, ↓mg7, ↓mg8, ↓mg9, ↓mg10, ↓mg11, ↓mg12, ↓mg13, ↓mg14, ↓mp0, ↓mp5, ↓mp11, ↓mp12, ↓mp13, ↓mp14, ↓ml1, ↓ml2, ↓ml3, ↓ml4, ↓ml5, ↓ml7, ↓ml8, ↓ml9, ↓mlr, ↓mt1, ↓mt2, ↓mt3, ↓mt4, ↓mt5, ↓mt7, ↓mt8, ↓mt9, ↓mlz, ↓mtz, mm_i, cond_true, cond_false, qAv, qAn, qV_vv, qV_s, qV_n, qU_s, qU_n, zN_neg1, nL0, nL1, nL2, nL3, nL4, nL5, nL6, nL7, nL8, nL9, nL10, nL11, nL12, nL13, nL14, nL20, nL21, nL22, nL23, nL25, nL32, nL33, nL39, nL40, nL43, nL44, nL99, nL100, nL120, nL216, nL217, nL218, nL219, nL220, nL221, nL500, nL999, nL1000, nL10000, nL100000, sh33, zN_lt, zN_le, zN_eq, zN_ge0, zN_lt0, zN_nm, zN_mn, zN_mlt, zN_ltm, zN_lem, zN_mle, zN_m1, zN_m2, zN_addm, zN_ofNat, zN_beq, zN_add, zN_sub, zN_mul, zN_rem, qT_lt, qF_lt, qT_le, qF_le, qT_eq, qF_eq, ↓reduceIte, and_true, true_and, false_and, and_false, not_true_eq_false, not_false_eq_true, decide_true, decide_false, Bool.true_or, Bool.or_true, Bool.false_or, Bool.or_false, cond_true, cond_false, cpB_s]
    exact h5
theorem in01 (h : kq.toInt = 0 ∨ kq.toInt = 1) : kq = zN 0 ∨ kq = zN 1 := by
  rcases h with h | h
  · exact Or.inl (Int32.toInt_inj.mp h)
  · exact Or.inr (Int32.toInt_inj.mp h)
theorem y_save (hR : modR sc Rq Fq) : ∃ s1 R1, modR s1 R1 (fSave Fq kq).2 ∧ s1 0 = zN (fSave Fq kq).1.1 ∧ pwX so 218 0 [some (.ref bq), some (.int kq), none] [] g (mkM bq sc Rq w) = some (.inl (some (.int ((fSave Fq kq).1.2))), g, (mkM bq s1 R1 w)) := by
  have hR2 := hR
  obtain ⟨⟨a1, a2⟩, a5, a3, a4⟩ := hR2
  have e8 : Rq 1 218 = tT Fq.2.1 := a2.1.2.2.2.2.1
  unfold fSave
  by_cases h1 : kq.toInt = 0 ∨ kq.toInt = 1
  · rw [if_pos h1]
    have h2 : ∃ s9 : Nat, s9 ≤ 1 ∧ kq = zN s9 := by
      rcases in01 h1 with h | h
      · exact ⟨0, by omega, h⟩
      · exact ⟨1, by omega, h⟩
    obtain ⟨s9, hs9, rfl⟩ := h2
    have hu : un (zN s9) = s9 := un_zN (by omega)
    have b2 : ∀ {w1 : pwW}, pwX so 133 0 [some (.long ((zN s9).toInt64)), none, some (.long 0), none, some (.long 1), none] [] g w1 = some (.inl (some (.int (zN 1))), g, w1) := in_T (by rw [i2l, jL0, jL1]; omega)
    have c2 := @n_sv26 so g bq w (upd sc 0 (zN 0)) Rq (Rq 5) s9 hs9 221 0 (by omega)
    rw [cpB_0, va_same, e8] at c2
    refine ⟨upd sc 0 (zN 0), va_up (va_up Rq 5 (cpB (Rq 5) (Rq 1) (221 * s9) 221)) 6 (upd (Rq 6) s9 (zN 1)), ?_, rfl, ?_⟩
    · unfold modR
      dsimp only
      rw [hu, qV_s, qV_n (show (1 : Nat) ≠ 6 by decide), qV_n (show (4 : Nat) ≠ 6 by decide), qV_n (show (5 : Nat) ≠ 6 by decide), qV_n (show (9 : Nat) ≠ 6 by decide), qV_n (show (1 : Nat) ≠ 5 by decide), qV_n (show (4 : Nat) ≠ 5 by decide), qV_s, qV_n (show (9 : Nat) ≠ 5 by decide)]
      refine ⟨⟨a1, a2⟩, a5, fun iq hi => ?_, a4⟩
      by_cases hx : iq = s9
      · subst hx
        refine ⟨fun hh => ?_, fun A8 hh => ?_⟩
        · unfold slU at hh; rw [if_pos rfl] at hh; cases hh
        · unfold slU at hh; rw [if_pos rfl] at hh; cases hh
          exact ⟨if_pos rfl, a1, repM_cong a1 a2 (fun jq hj => cpB_i hj)⟩
      · obtain ⟨d1, d2⟩ := a3 iq hi
        have hsl : slU Fq.2.2.2 s9 (some Fq.2.1) iq = Fq.2.2.2 iq := if_neg hx
        rw [hsl]
        have hu6 : upd (Rq 6) s9 (zN 1) iq = Rq 6 iq := if_neg hx
        rw [hu6]
        refine ⟨d1, fun A8 hh => ?_⟩
        obtain ⟨f1, f2, f3⟩ := d2 A8 hh
        exact ⟨f1, f2, repM_cong f2 f3 (fun jq hj => cpB_o (by omega))⟩
    · dsimp only
      simp (disch := omega) only [s_X8_save_0, s_X8_save_1, s_X8_save_2, s_X8_save_3, s_X8_save_4, s_X8_save_5, s_X8_save_8, s_X8_save_11, s_X8_save_12, s_X8_save_15, s_X8_save_16, s_X8_save_19, s_X8_save_22, s_X8_save_23, s_X8_save_24, s_X8_save_25, s_X8_refused_0, s_X8_refused_1, s_X8_refused_2, s_X8_refused_5, s_X8_refused_6, s_X8_refused_9, s_X8_refused_10, s_X8_refused_13, s_X8_refused_14, ↓mg0, ↓mg1, ↓mg2, ↓mg3, ↓mg4, ↓mg5, ↓mg6, ↓mg7, ↓mg8, ↓mg9, ↓mg10, ↓mg11, ↓mg12, ↓mg13, ↓mg14, ↓mp0, ↓mp5, ↓mp11, ↓mp12, ↓mp13, ↓mp14, ↓ml1, ↓ml2, ↓ml3, ↓ml4, ↓ml5, ↓ml7, ↓ml8, ↓ml9, ↓mlr, ↓mt1, ↓mt2, ↓mt3, ↓mt4, ↓mt5, ↓mt7, ↓mt8, ↓mt9, ↓mlz, ↓mtz, mm_i, cond_true, cond_false, qAv, qAn, qV_vv, qV_s, qV_n, qU_s, qU_n, zN_neg1, nL0, nL1, nL2, nL3, nL4, nL5, nL6, nL7, nL8, nL9, nL10, nL11, nL12, nL13, nL14, nL20, nL21, nL22, nL23, nL25, nL32, nL33, nL39, nL40, nL43, nL44, nL99, nL100, nL120, nL216, nL217, nL218, nL219, nL220, nL221, nL500, nL999, nL1000, nL10000, nL100000, sh33, zN_lt, zN_le, zN_eq, zN_ge0, zN_lt0, zN_nm, zN_mn, zN_mlt, zN_ltm, zN_lem, zN_mle, zN_m1, zN_m2, zN_addm, zN_ofNat, zN_beq, zN_add, zN_sub, zN_mul, zN_rem, qT_lt, qF_lt, qT_le, qF_le, qT_eq, qF_eq, ↓reduceIte, and_true, true_and, false_and, and_false, not_true_eq_false, not_false_eq_true, decide_true, decide_false, Bool.true_or, Bool.or_true, Bool.false_or, Bool.or_false, cond_true, cond_false, qbi, qb1, qb0, b2, Option.bind_some]
      exact c2
  · rw [if_neg h1]
    have b2 : ∀ {w1 : pwW}, pwX so 133 0 [some (.long (kq.toInt64)), none, some (.long 0), none, some (.long 1), none] [] g w1 = some (.inl (some (.int (zN 0))), g, w1) := in_F (by rw [i2l, jL0, jL1]; omega)
    dsimp only
    refine y_ex hR ?_
    simp (disch := omega) only [s_X8_save_0, s_X8_save_1, s_X8_save_2, s_X8_save_3, s_X8_save_4, s_X8_save_5, s_X8_save_8, s_X8_save_11, s_X8_save_12, s_X8_save_15, s_X8_save_16, s_X8_save_19, s_X8_save_22, s_X8_save_23, s_X8_save_24, s_X8_save_25, s_X8_refused_0, s_X8_refused_1, s_X8_refused_2, s_X8_refused_5, s_X8_refused_6, s_X8_refused_9, s_X8_refused_10, s_X8_refused_13, s_X8_refused_14, ↓mg0, ↓mg1, ↓mg2, ↓mg3, ↓mg4, ↓mg5, ↓mg6, ↓mg7, ↓mg8, ↓mg9, ↓mg10, ↓mg11, ↓mg12, ↓mg13, ↓mg14, ↓mp0, ↓mp5, ↓mp11, ↓mp12, ↓mp13, ↓mp14, ↓ml1, ↓ml2, ↓ml3, ↓ml4, ↓ml5, ↓ml7, ↓ml8, ↓ml9, ↓mlr, ↓mt1, ↓mt2, ↓mt3, ↓mt4, ↓mt5, ↓mt7, ↓mt8, ↓mt9, ↓mlz, ↓mtz, mm_i, cond_true, cond_false, qAv, qAn, qV_vv, qV_s, qV_n, qU_s, qU_n, zN_neg1, nL0, nL1, nL2, nL3, nL4, nL5, nL6, nL7, nL8, nL9, nL10, nL11, nL12, nL13, nL14, nL20, nL21, nL22, nL23, nL25, nL32, nL33, nL39, nL40, nL43, nL44, nL99, nL100, nL120, nL216, nL217, nL218, nL219, nL220, nL221, nL500, nL999, nL1000, nL10000, nL100000, sh33, zN_lt, zN_le, zN_eq, zN_ge0, zN_lt0, zN_nm, zN_mn, zN_mlt, zN_ltm, zN_lem, zN_mle, zN_m1, zN_m2, zN_addm, zN_ofNat, zN_beq, zN_add, zN_sub, zN_mul, zN_rem, qT_lt, qF_lt, qT_le, qF_le, qT_eq, qF_eq, ↓reduceIte, and_true, true_and, false_and, and_false, not_true_eq_false, not_false_eq_true, decide_true, decide_false, Bool.true_or, Bool.or_true, Bool.false_or, Bool.or_false, cond_true, cond_false, qbi, qb1, qb0, b2, Option.bind_some]
theorem n_rs39 {sl : Nat} (hs : sl ≤ 1) : ∀ dq iq, iq + dq = 221 → pwX so 219 39 [some (.ref bq), some (.int (zN sl)), some (.int (zN iq))] [] g (mkM bq sc (va_up Rq 1 (cpG fq (Rq 5) (221 * sl) iq)) w) = some (.inl (some (.int (cpG fq (Rq 5) (221 * sl) 221 218))), g, (mkM bq (upd sc 5 (zN 0)) (va_up Rq 1 (cpG fq (Rq 5) (221 * sl) 221)) w)) := by
  intro dq
  induction dq with
  | zero =>
    intro iq e1
    have e1 : iq = 221 := by omega
    subst e1
    simp (disch := omega) only [s_X8_restore_0, s_X8_restore_1, s_X8_restore_2, s_X8_restore_3, s_X8_restore_4, s_X8_restore_5, s_X8_restore_8, s_X8_restore_11, s_X8_restore_12, s_X8_restore_15, s_X8_restore_16, s_X8_restore_19, s_X8_restore_20, s_X8_restore_21, s_X8_restore_24, s_X8_restore_25, s_X8_restore_28, s_X8_restore_29, s_X8_restore_32, s_X8_restore_35, s_X8_restore_36, s_X8_restore_37, s_X8_restore_38, s_X8_restore_39, s_X8_restore_40, s_X8_restore_43, s_X8_restore_46, s_X8_restore_47, s_X8_restore_50, s_X8_restore_51, s_X8_restore_52, s_X8_restore_55, s_X8_restore_58, s_X8_restore_59, s_X8_restore_60, s_X8_restore_61, s_X8_restore_62, s_X8_restore_63, s_X8_restore_64, s_X8_restore_67, s_X8_restore_70, s_X8_restore_71, s_X8_restore_72, s_X8_restore_75, s_X8_restore_76, s_X8_restore_79, s_X8_restore_82, s_X8_restore_83, ↓mg0, ↓mg1, ↓mg2, ↓mg3, ↓mg4, ↓mg5, ↓mg6, ↓mg7, ↓mg8, ↓mg9, ↓mg10, ↓mg11, ↓mg12, ↓mg13, ↓mg14, ↓mp0, ↓mp5, ↓mp11, ↓mp12, ↓mp13, ↓mp14, ↓ml1, ↓ml2, ↓ml3, ↓ml4, ↓ml5, ↓ml7, ↓ml8, ↓ml9, ↓mlr, ↓mt1, ↓mt2, ↓mt3, ↓mt4, ↓mt5, ↓mt7, ↓mt8, ↓mt9, ↓mlz, ↓mtz, mm_i, cond_true, cond_false, qAv, qAn, qV_vv, qV_s, qV_n, qU_s, qU_n, zN_neg1, nL0, nL1, nL2, nL3, nL4, nL5, nL6, nL7, nL8, nL9, nL10, nL11, nL12, nL13, nL14, nL20, nL21, nL22, nL23, nL25, nL32, nL33, nL39, nL40, nL43, nL44, nL99, nL100, nL120, nL216, nL217, nL218, nL219, nL220, nL221, nL500, nL999, nL1000, nL10000, nL100000, sh33, zN_lt, zN_le, zN_eq, zN_ge0, zN_lt0, zN_nm, zN_mn, zN_mlt, zN_ltm, zN_lem, zN_mle, zN_m1, zN_m2, zN_addm, zN_ofNat, zN_beq, zN_add, zN_sub, zN_mul, zN_rem, qT_lt, qF_lt, qT_le, qF_le, qT_eq, qF_eq, ↓reduceIte, and_true, true_and, false_and, and_false, not_true_eq_false, not_false_eq_true, decide_true, decide_false, Bool.true_or, Bool.or_true, Bool.false_or, Bool.or_false, cond_true, cond_false]
  | succ dq ih =>
    intro iq e1
    have h5 := ih (iq + 1) (by omega)
    rw [s_X8_restore_39]
    simp (disch := omega) only [s_X8_restore_40, s_X8_restore_43, s_X8_restore_46, s_X8_restore_47, s_X8_restore_50, s_X8_restore_51, s_X8_restore_52, s_X8_restore_55, s_X8_restore_58, s_X8_restore_59, s_X8_restore_60, s_X8_restore_61, s_X8_restore_62, s_X8_restore_63, s_X8_restore_64, s_X8_restore_67, ↓mg0, ↓mg1, ↓mg2, ↓mg3, ↓mg4, ↓mg5, ↓mg6, ↓mg7, ↓mg8, ↓mg9, ↓mg10, ↓mg11, ↓mg12, ↓mg13, ↓mg14, ↓mp0, ↓mp5, ↓mp11, ↓mp12, ↓mp13, ↓mp14, ↓ml1, ↓ml2, ↓ml3, ↓ml4, ↓ml5, ↓ml7, ↓ml8, ↓ml9, ↓mlr, ↓mt1, ↓mt2, ↓mt3, ↓mt4, ↓mt5, ↓mt7, ↓mt8, ↓mt9, ↓mlz, ↓mtz, mm_i, cond_true, cond_false, qAv, qAn, qV_vv, qV_s, qV_n, qU_s, qU_n, zN_neg1, nL0, nL1, nL2, nL3, nL4, nL5, nL6, nL7, nL8, nL9, nL10, nL11, nL12, nL13, nL14, nL20, nL21, nL22, nL23, nL25, nL32, nL33, nL39, nL40, nL43, nL44, nL99, nL100, nL120, nL216, nL217, nL218, nL219, nL220, nL221, nL500, nL999, nL1000, nL10000, nL100000, sh33, zN_lt, zN_le, zN_eq, zN_ge0, zN_lt0, zN_nm, zN_mn, zN_mlt, zN_ltm, zN_lem, zN_mle, zN_m1, zN_m2, zN_addm, zN_ofNat, zN_beq, zN_add, zN_sub, zN_mul, zN_rem, qT_lt, qF_lt, qT_le, qF_le, qT_eq, qF_eq, ↓reduceIte, and_true, true_and, false_and, and_false, not_true_eq_false, not_false_eq_true, decide_true, decide_false, Bool.true_or, Bool.or_true, Bool.false_or, Bool.or_false, cond_true, cond_false, cpG_s]
    exact h5
theorem y_rest (hR : modR sc Rq Fq) : ∃ s1 R1, modR s1 R1 (fRest Fq kq).2 ∧ s1 0 = zN (fRest Fq kq).1.1 ∧ pwX so 219 0 [some (.ref bq), some (.int kq), none] [] g (mkM bq sc Rq w) = some (.inl (some (.int ((fRest Fq kq).1.2))), g, (mkM bq s1 R1 w)) := by
  have hR2 := hR
  obtain ⟨⟨a1, a2⟩, a5, a3, a4⟩ := hR2
  unfold fRest
  by_cases h1 : kq.toInt = 0 ∨ kq.toInt = 1
  · rw [if_pos h1]
    have h2 : ∃ s9 : Nat, s9 ≤ 1 ∧ kq = zN s9 := by
      rcases in01 h1 with h | h
      · exact ⟨0, by omega, h⟩
      · exact ⟨1, by omega, h⟩
    obtain ⟨s9, hs9, rfl⟩ := h2
    have hu : un (zN s9) = s9 := un_zN (by omega)
    rw [hu]
    have b2 : ∀ {w1 : pwW}, pwX so 133 0 [some (.long ((zN s9).toInt64)), none, some (.long 0), none, some (.long 1), none] [] g w1 = some (.inl (some (.int (zN 1))), g, w1) := in_T (by rw [i2l, jL0, jL1]; omega)
    obtain ⟨d1, d2⟩ := a3 s9 (by omega)
    cases hS : Fq.2.2.2 s9 with
    | none =>
      have d3 := d1 hS
      dsimp only
      refine y_ex hR ?_
      simp (disch := omega) only [s_X8_restore_0, s_X8_restore_1, s_X8_restore_2, s_X8_restore_3, s_X8_restore_4, s_X8_restore_5, s_X8_restore_8, s_X8_restore_11, s_X8_restore_12, s_X8_restore_15, s_X8_restore_16, s_X8_restore_19, s_X8_restore_20, s_X8_restore_21, s_X8_restore_24, s_X8_restore_25, s_X8_restore_28, s_X8_restore_29, s_X8_restore_32, s_X8_restore_35, s_X8_restore_36, s_X8_restore_37, s_X8_restore_38, s_X8_refused_0, s_X8_refused_1, s_X8_refused_2, s_X8_refused_5, s_X8_refused_6, s_X8_refused_9, s_X8_refused_10, s_X8_refused_13, s_X8_refused_14, ↓mg0, ↓mg1, ↓mg2, ↓mg3, ↓mg4, ↓mg5, ↓mg6, ↓mg7, ↓mg8, ↓mg9, ↓mg10, ↓mg11, ↓mg12, ↓mg13, ↓mg14, ↓mp0, ↓mp5, ↓mp11, ↓mp12, ↓mp13, ↓mp14, ↓ml1, ↓ml2, ↓ml3, ↓ml4, ↓ml5, ↓ml7, ↓ml8, ↓ml9, ↓mlr, ↓mt1, ↓mt2, ↓mt3, ↓mt4, ↓mt5, ↓mt7, ↓mt8, ↓mt9, ↓mlz, ↓mtz, mm_i, cond_true, cond_false, qAv, qAn, qV_vv, qV_s, qV_n, qU_s, qU_n, zN_neg1, nL0, nL1, nL2, nL3, nL4, nL5, nL6, nL7, nL8, nL9, nL10, nL11, nL12, nL13, nL14, nL20, nL21, nL22, nL23, nL25, nL32, nL33, nL39, nL40, nL43, nL44, nL99, nL100, nL120, nL216, nL217, nL218, nL219, nL220, nL221, nL500, nL999, nL1000, nL10000, nL100000, sh33, zN_lt, zN_le, zN_eq, zN_ge0, zN_lt0, zN_nm, zN_mn, zN_mlt, zN_ltm, zN_lem, zN_mle, zN_m1, zN_m2, zN_addm, zN_ofNat, zN_beq, zN_add, zN_sub, zN_mul, zN_rem, qT_lt, qF_lt, qT_le, qF_le, qT_eq, qF_eq, ↓reduceIte, and_true, true_and, false_and, and_false, not_true_eq_false, not_false_eq_true, decide_true, decide_false, Bool.true_or, Bool.or_true, Bool.false_or, Bool.or_false, cond_true, cond_false, qbi, qb1, qb0, b2, d3, Option.bind_some]
    | some A8 =>
      obtain ⟨f1, f2, f3⟩ := d2 A8 hS
      have hz : repM A8 (cpG (Rq 1) (Rq 5) (221 * s9) 221) := repM_cong f2 f3 (fun jq hj => cpG_i hj)
      have e8 : cpG (Rq 1) (Rq 5) (221 * s9) 221 218 = tT A8 := hz.1.2.2.2.2.1
      have c2 := @n_rs39 so g bq w (upd sc 0 (zN 0)) Rq (Rq 1) s9 hs9 221 0 (by omega)
      rw [cpG_0, va_same, e8] at c2
      have hR3 : modR (upd (upd sc 0 (zN 0)) 5 (zN 0)) Rq (Fq.1, Fq.2.1, [], Fq.2.2.2) :=
        ⟨⟨a1, a2⟩, ⟨rfl, Nat.zero_le _, fun iq A9 h9 => by cases h9⟩, a3, a4⟩
      refine ⟨upd (upd sc 0 (zN 0)) 5 (zN 0), va_up Rq 1 (cpG (Rq 1) (Rq 5) (221 * s9) 221), modR_now hR3 f2 hz, rfl, ?_⟩
      dsimp only
      simp (disch := omega) only [s_X8_restore_0, s_X8_restore_1, s_X8_restore_2, s_X8_restore_3, s_X8_restore_4, s_X8_restore_5, s_X8_restore_8, s_X8_restore_11, s_X8_restore_12, s_X8_restore_15, s_X8_restore_16, s_X8_restore_19, s_X8_restore_20, s_X8_restore_21, s_X8_restore_24, s_X8_restore_25, s_X8_restore_28, s_X8_restore_29, s_X8_restore_32, s_X8_restore_35, s_X8_restore_36, s_X8_restore_37, s_X8_restore_38, s_X8_refused_0, s_X8_refused_1, s_X8_refused_2, s_X8_refused_5, s_X8_refused_6, s_X8_refused_9, s_X8_refused_10, s_X8_refused_13, s_X8_refused_14, ↓mg0, ↓mg1, ↓mg2, ↓mg3, ↓mg4, ↓mg5, ↓mg6, ↓mg7, ↓mg8, ↓mg9, ↓mg10, ↓mg11, ↓mg12, ↓mg13, ↓mg14, ↓mp0, ↓mp5, ↓mp11, ↓mp12, ↓mp13, ↓mp14, ↓ml1, ↓ml2, ↓ml3, ↓ml4, ↓ml5, ↓ml7, ↓ml8, ↓ml9, ↓mlr, ↓mt1, ↓mt2, ↓mt3, ↓mt4, ↓mt5, ↓mt7, ↓mt8, ↓mt9, ↓mlz, ↓mtz, mm_i, cond_true, cond_false, qAv, qAn, qV_vv, qV_s, qV_n, qU_s, qU_n, zN_neg1, nL0, nL1, nL2, nL3, nL4, nL5, nL6, nL7, nL8, nL9, nL10, nL11, nL12, nL13, nL14, nL20, nL21, nL22, nL23, nL25, nL32, nL33, nL39, nL40, nL43, nL44, nL99, nL100, nL120, nL216, nL217, nL218, nL219, nL220, nL221, nL500, nL999, nL1000, nL10000, nL100000, sh33, zN_lt, zN_le, zN_eq, zN_ge0, zN_lt0, zN_nm, zN_mn, zN_mlt, zN_ltm, zN_lem, zN_mle, zN_m1, zN_m2, zN_addm, zN_ofNat, zN_beq, zN_add, zN_sub, zN_mul, zN_rem, qT_lt, qF_lt, qT_le, qF_le, qT_eq, qF_eq, ↓reduceIte, and_true, true_and, false_and, and_false, not_true_eq_false, not_false_eq_true, decide_true, decide_false, Bool.true_or, Bool.or_true, Bool.false_or, Bool.or_false, cond_true, cond_false, qbi, qb1, qb0, b2, f1, Option.bind_some]
      exact c2
  · rw [if_neg h1]
    have b2 : ∀ {w1 : pwW}, pwX so 133 0 [some (.long (kq.toInt64)), none, some (.long 0), none, some (.long 1), none] [] g w1 = some (.inl (some (.int (zN 0))), g, w1) := in_F (by rw [i2l, jL0, jL1]; omega)
    dsimp only
    refine y_ex hR ?_
    simp (disch := omega) only [s_X8_restore_0, s_X8_restore_1, s_X8_restore_2, s_X8_restore_3, s_X8_restore_4, s_X8_restore_5, s_X8_restore_8, s_X8_restore_11, s_X8_restore_12, s_X8_restore_15, s_X8_restore_16, s_X8_restore_19, s_X8_restore_20, s_X8_restore_21, s_X8_restore_24, s_X8_restore_25, s_X8_restore_28, s_X8_restore_29, s_X8_restore_32, s_X8_restore_35, s_X8_restore_36, s_X8_restore_37, s_X8_restore_38, s_X8_refused_0, s_X8_refused_1, s_X8_refused_2, s_X8_refused_5, s_X8_refused_6, s_X8_refused_9, s_X8_refused_10, s_X8_refused_13, s_X8_refused_14, ↓mg0, ↓mg1, ↓mg2, ↓mg3, ↓mg4, ↓mg5, ↓mg6, ↓mg7, ↓mg8, ↓mg9, ↓mg10, ↓mg11, ↓mg12, ↓mg13, ↓mg14, ↓mp0, ↓mp5, ↓mp11, ↓mp12, ↓mp13, ↓mp14, ↓ml1, ↓ml2, ↓ml3, ↓ml4, ↓ml5, ↓ml7, ↓ml8, ↓ml9, ↓mlr, ↓mt1, ↓mt2, ↓mt3, ↓mt4, ↓mt5, ↓mt7, ↓mt8, ↓mt9, ↓mlz, ↓mtz, mm_i, cond_true, cond_false, qAv, qAn, qV_vv, qV_s, qV_n, qU_s, qU_n, zN_neg1, nL0, nL1, nL2, nL3, nL4, nL5, nL6, nL7, nL8, nL9, nL10, nL11, nL12, nL13, nL14, nL20, nL21, nL22, nL23, nL25, nL32, nL33, nL39, nL40, nL43, nL44, nL99, nL100, nL120, nL216, nL217, nL218, nL219, nL220, nL221, nL500, nL999, nL1000, nL10000, nL100000, sh33, zN_lt, zN_le, zN_eq, zN_ge0, zN_lt0, zN_nm, zN_mn, zN_mlt, zN_ltm, zN_lem, zN_mle, zN_m1, zN_m2, zN_addm, zN_ofNat, zN_beq, zN_add, zN_sub, zN_mul, zN_rem, qT_lt, qF_lt, qT_le, qF_le, qT_eq, qF_eq, ↓reduceIte, and_true, true_and, false_and, and_false, not_true_eq_false, not_false_eq_true, decide_true, decide_false, Bool.true_or, Bool.or_true, Bool.false_or, Bool.or_false, cond_true, cond_false, qbi, qb1, qb0, b2, Option.bind_some]
end QA

/-! the pure part: the model's rows -/
def mkA (aq nq : Nat) (fq : Nat → Int32) (w : pwW) : pwW := va_up w aq (.inl (0, nq, .inl fq))
section QR
variable {aq nq cq iq : Nat} {fq hq : Nat → Int32} {w : pwW} {vq : Int32} {αq : Type} {kq : Int32 → Option αq} {pq : pwW → Option αq}
theorem mkA_s : mkA aq nq fq w aq = .inl (0, nq, .inl fq) := va_up_self _ _ _
theorem mkA_o (h : cq ≠ aq) : mkA aq nq fq w cq = w cq := va_up_ne _ _ h
theorem mkA_mkA : mkA aq nq fq (mkA aq nq hq w) = mkA aq nq fq w := by
  funext jq; unfold mkA va_up; split <;> rfl
theorem md_ld (h : iq < nq) (h2 : iq < 2147483648) : (pwLd (mkA aq nq fq w) aq (zN iq)).bind kq = kq (fq iq) := by
  rw [qLd mkA_s (Or.inl rfl) (qIn_of h h2), zN_nat h2]; rfl
theorem md_st (h : iq < nq) (h2 : iq < 2147483648) : (pwSt0 (mkA aq nq fq w) aq (zN iq) vq).bind pq = pq (mkA aq nq (upd fq iq vq) w) := by
  rw [qSt mkA_s (qIn_of h h2), zN_nat h2]
  show pq _ = _
  congr 1
  funext jq; unfold mkA va_up; split <;> rfl
theorem md_ldo (h : cq ≠ aq) {jq : Int32} : (pwLd (mkA aq nq fq w) cq jq).bind kq = (pwLd w cq jq).bind kq := by
  unfold pwLd; rw [mkA_o h]
theorem iT_le {xq yq : Int} (h : xq ≤ yq) : (xq ≤ yq) = True := eq_true h
theorem iF_le {xq yq : Int} (h : yq < xq) : (xq ≤ yq) = False := eq_false (by omega)
theorem iT_lt {xq yq : Int} (h : xq < yq) : (xq < yq) = True := eq_true h
theorem iF_lt {xq yq : Int} (h : yq ≤ xq) : (xq < yq) = False := eq_false (by omega)
theorem jL0 : (0 : Int64).toInt = 0 := by decide
theorem jL1 : (1 : Int64).toInt = 1 := by decide
theorem jL2 : (2 : Int64).toInt = 2 := by decide
theorem jL3 : (3 : Int64).toInt = 3 := by decide
theorem jL5 : (5 : Int64).toInt = 5 := by decide
theorem jL6 : (6 : Int64).toInt = 6 := by decide
theorem jL9 : (9 : Int64).toInt = 9 := by decide
theorem jL10 : (10 : Int64).toInt = 10 := by decide
theorem jL12 : (12 : Int64).toInt = 12 := by decide
theorem jL20 : (20 : Int64).toInt = 20 := by decide
theorem jL25 : (25 : Int64).toInt = 25 := by decide
theorem jL39 : (39 : Int64).toInt = 39 := by decide
theorem jL60 : (60 : Int64).toInt = 60 := by decide
theorem jL99 : (99 : Int64).toInt = 99 := by decide
theorem jL255 : (255 : Int64).toInt = 255 := by decide
theorem jL500 : (500 : Int64).toInt = 500 := by decide
theorem i2l {pq : Int32} : pq.toInt64.toInt = pq.toInt := Int32.toInt_toInt64 pq
theorem zN_pred (h : nq < 2147483648) : (zN nq - zN 1).toInt = (nq : Int) - 1 := by
  by_cases h0 : 1 ≤ nq
  · rw [zN_sub h0, zN_toInt (by omega)]; omega
  · rw [show nq = 0 by omega]; decide
theorem lcL0 {xq yq : Int64} : (lg_cmp xq yq < zN 0) = (xq.toInt < yq.toInt) := propext ((lg_cmp_lt xq yq).trans Int64.lt_iff_toInt_lt)
theorem lcG0 {xq yq : Int64} : (zN 0 < lg_cmp xq yq) = (yq.toInt < xq.toInt) := propext ((lg_cmp_gt xq yq).trans Int64.lt_iff_toInt_lt)
theorem lcLe0 {xq yq : Int64} : (lg_cmp xq yq ≤ zN 0) = (xq.toInt ≤ yq.toInt) := propext ((lg_cmp_le xq yq).trans Int64.le_iff_toInt_le)
theorem lcGe0 {xq yq : Int64} : (zN 0 ≤ lg_cmp xq yq) = (yq.toInt ≤ xq.toInt) := propext ((lg_cmp_ge xq yq).trans Int64.le_iff_toInt_le)
end QR
section QA
variable {so : Nat → Nat} {g : pwG} {w : pwW} {aq nq sq Sq : Nat} {fq : Nat → Int32} {pq rq tq uq : Int32}
theorem n_in {xq yq zq : Int64} : pwX so 133 0 [some (.long xq), none, some (.long yq), none, some (.long zq), none] [] g w = some (.inl (some (.int (if yq.toInt ≤ xq.toInt ∧ xq.toInt ≤ zq.toInt then zN 1 else zN 0))), g, w) := by
  simp only [s_X8_in_0, s_X8_in_1, s_X8_in_2, s_X8_in_3, s_X8_in_6, s_X8_in_7, s_X8_in_9, s_X8_in_10, s_X8_in_13, s_X8_in_14, s_X8_in_17, s_X8_in_18, zN_neg1, nL0, nL1, nL2, nL3, nL4, nL5, nL6, nL7, nL8, nL9, nL10, nL11, nL12, nL13, nL14, nL20, nL21, nL22, nL23, nL25, nL32, nL33, nL39, nL40, nL43, nL44, nL99, nL100, nL120, nL216, nL217, nL218, nL219, nL220, nL221, nL500, nL999, nL1000, nL10000, nL100000, qbi, qb1, qb0, lcL0, lcG0]
  (repeat' split) <;> first | rfl | (exfalso; (try simp (disch := omega) only [zN_neg1, nL0, nL1, nL2, nL3, nL4, nL5, nL6, nL7, nL8, nL9, nL10, nL11, nL12, nL13, nL14, nL20, nL21, nL22, nL23, nL25, nL32, nL33, nL39, nL40, nL43, nL44, nL99, nL100, nL120, nL216, nL217, nL218, nL219, nL220, nL221, nL500, nL999, nL1000, nL10000, nL100000, qLtI, qLeI, qEqI, zN_toInt, qM1I] at *); omega)
theorem n_block : pwX so 143 0 [some (.int (zN sq))] [] g w = some (.inl (some (.int (zN (44 + 43 * sq)))), g, w) := by
  simp (disch := omega) only [s_X8_block_0, s_X8_block_2, s_X8_block_4, s_X8_block_5, s_X8_block_6, s_X8_block_7, zN_neg1, nL0, nL1, nL2, nL3, nL4, nL5, nL6, nL7, nL8, nL9, nL10, nL11, nL12, nL13, nL14, nL20, nL21, nL22, nL23, nL25, nL32, nL33, nL39, nL40, nL43, nL44, nL99, nL100, nL120, nL216, nL217, nL218, nL219, nL220, nL221, nL500, nL999, nL1000, nL10000, nL100000, zN_mul, zN_add]
theorem n_isLetter : pwX so 140 0 [some (.int pq)] [] g w = some (.inl (some (.int (if 0 ≤ pq.toInt ∧ pq.toInt ≤ 25 then zN 1 else zN 0))), g, w) := by
  simp (disch := omega) only [s_X8_isLetter_0, s_X8_isLetter_1, s_X8_isLetter_2, s_X8_isLetter_3, s_X8_isLetter_6, s_X8_isLetter_9, zN_neg1, nL0, nL1, nL2, nL3, nL4, nL5, nL6, nL7, nL8, nL9, nL10, nL11, nL12, nL13, nL14, nL20, nL21, nL22, nL23, nL25, nL32, nL33, nL39, nL40, nL43, nL44, nL99, nL100, nL120, nL216, nL217, nL218, nL219, nL220, nL221, nL500, nL999, nL1000, nL10000, nL100000, n_in, i2l, jL0, jL25, qAv, qbi, qb1, qb0]
theorem n_isShift : pwX so 139 0 [some (.int pq)] [] g w = some (.inl (some (.int (if 0 ≤ pq.toInt ∧ pq.toInt ≤ 39 then zN 1 else zN 0))), g, w) := by
  simp (disch := omega) only [s_X8_isShift_0, s_X8_isShift_1, s_X8_isShift_2, s_X8_isShift_3, s_X8_isShift_6, s_X8_isShift_9, zN_neg1, nL0, nL1, nL2, nL3, nL4, nL5, nL6, nL7, nL8, nL9, nL10, nL11, nL12, nL13, nL14, nL20, nL21, nL22, nL23, nL25, nL32, nL33, nL39, nL40, nL43, nL44, nL99, nL100, nL120, nL216, nL217, nL218, nL219, nL220, nL221, nL500, nL999, nL1000, nL10000, nL100000, n_in, i2l, jL0, jL39, qAv, qbi, qb1, qb0]
theorem n_isWalker (h : fq 0 = zN Sq) (h2 : Sq < 2147483648) : pwX so 137 0 [some (.ref aq), some (.int pq)] [] g (mkA aq 221 fq w) = some (.inl (some (.int (if 0 ≤ pq.toInt ∧ pq.toInt ≤ (Sq : Int) - 1 then zN 1 else zN 0))), g, (mkA aq 221 fq w)) := by
  simp (disch := omega) only [s_X8_isWalker_0, s_X8_isWalker_1, s_X8_isWalker_2, s_X8_isWalker_3, s_X8_isWalker_4, s_X8_isWalker_5, s_X8_isWalker_6, s_X8_isWalker_7, s_X8_isWalker_8, s_X8_isWalker_9, s_X8_isWalker_12, zN_neg1, nL0, nL1, nL2, nL3, nL4, nL5, nL6, nL7, nL8, nL9, nL10, nL11, nL12, nL13, nL14, nL20, nL21, nL22, nL23, nL25, nL32, nL33, nL39, nL40, nL43, nL44, nL99, nL100, nL120, nL216, nL217, nL218, nL219, nL220, nL221, nL500, nL999, nL1000, nL10000, nL100000, n_in, i2l, jL0, qAv, ↓md_ld, h, zN_pred, qbi, qb1, qb0]
theorem n_isStreet (h : fq 43 = zN Sq) (h2 : Sq < 2147483648) : pwX so 138 0 [some (.ref aq), some (.int pq)] [] g (mkA aq 221 fq w) = some (.inl (some (.int (if 0 ≤ pq.toInt ∧ pq.toInt ≤ (Sq : Int) - 1 then zN 1 else zN 0))), g, (mkA aq 221 fq w)) := by
  simp (disch := omega) only [s_X8_isStreet_0, s_X8_isStreet_1, s_X8_isStreet_2, s_X8_isStreet_3, s_X8_isStreet_4, s_X8_isStreet_6, s_X8_isStreet_7, s_X8_isStreet_8, s_X8_isStreet_9, s_X8_isStreet_10, s_X8_isStreet_13, zN_neg1, nL0, nL1, nL2, nL3, nL4, nL5, nL6, nL7, nL8, nL9, nL10, nL11, nL12, nL13, nL14, nL20, nL21, nL22, nL23, nL25, nL32, nL33, nL39, nL40, nL43, nL44, nL99, nL100, nL120, nL216, nL217, nL218, nL219, nL220, nL221, nL500, nL999, nL1000, nL10000, nL100000, n_in, i2l, jL0, qAv, ↓md_ld, h, zN_pred, qbi, qb1, qb0]
theorem n_isSetting : pwX so 141 0 [some (.int pq), some (.int rq)] [] g w = some (.inl (some (.int (if (pq = zN 0 ∧ 0 ≤ rq.toInt ∧ rq.toInt ≤ 3) ∨ (pq = zN 1 ∧ 0 ≤ rq.toInt ∧ rq.toInt ≤ 1) then zN 1 else zN 0))), g, w) := by
  simp (disch := omega) only [s_X8_isSetting_0, s_X8_isSetting_1, s_X8_isSetting_4, s_X8_isSetting_5, s_X8_isSetting_6, s_X8_isSetting_7, s_X8_isSetting_10, s_X8_isSetting_13, s_X8_isSetting_16, s_X8_isSetting_17, s_X8_isSetting_18, s_X8_isSetting_21, s_X8_isSetting_22, s_X8_isSetting_23, s_X8_isSetting_24, s_X8_isSetting_25, s_X8_isSetting_28, s_X8_isSetting_31, s_X8_isSetting_32, s_X8_isSetting_35, s_X8_isSetting_36, zN_neg1, nL0, nL1, nL2, nL3, nL4, nL5, nL6, nL7, nL8, nL9, nL10, nL11, nL12, nL13, nL14, nL20, nL21, nL22, nL23, nL25, nL32, nL33, nL39, nL40, nL43, nL44, nL99, nL100, nL120, nL216, nL217, nL218, nL219, nL220, nL221, nL500, nL999, nL1000, nL10000, nL100000, n_in, i2l, jL0, jL1, jL3, qAv, qbi, qb1, qb0, qi0]
  (repeat' split) <;> first | rfl | (exfalso; (try simp (disch := omega) only [zN_neg1, nL0, nL1, nL2, nL3, nL4, nL5, nL6, nL7, nL8, nL9, nL10, nL11, nL12, nL13, nL14, nL20, nL21, nL22, nL23, nL25, nL32, nL33, nL39, nL40, nL43, nL44, nL99, nL100, nL120, nL216, nL217, nL218, nL219, nL220, nL221, nL500, nL999, nL1000, nL10000, nL100000, qLtI, qLeI, qEqI, zN_toInt, qM1I] at *); omega)
theorem n_isLaid : pwX so 142 0 [some (.int pq), some (.int rq), some (.int tq), some (.int uq)] [] g w = some (.inl (some (.int (if (2 ≤ pq.toInt ∧ pq.toInt ≤ 20) ∧ (1 ≤ rq.toInt ∧ rq.toInt ≤ 20) ∧ (0 ≤ tq.toInt ∧ tq.toInt ≤ 20) ∧ 1 ≤ uq.toInt ∧ uq.toInt ≤ 6 then zN 1 else zN 0))), g, w) := by
  simp (disch := omega) only [s_X8_isLaid_0, s_X8_isLaid_1, s_X8_isLaid_2, s_X8_isLaid_5, s_X8_isLaid_8, s_X8_isLaid_11, s_X8_isLaid_14, s_X8_isLaid_15, s_X8_isLaid_16, s_X8_isLaid_17, s_X8_isLaid_20, s_X8_isLaid_23, s_X8_isLaid_26, s_X8_isLaid_27, s_X8_isLaid_28, s_X8_isLaid_29, s_X8_isLaid_32, s_X8_isLaid_35, s_X8_isLaid_38, s_X8_isLaid_39, s_X8_isLaid_40, s_X8_isLaid_41, s_X8_isLaid_44, s_X8_isLaid_47, s_X8_isLaid_50, s_X8_isLaid_51, s_X8_isLaid_54, s_X8_isLaid_55, zN_neg1, nL0, nL1, nL2, nL3, nL4, nL5, nL6, nL7, nL8, nL9, nL10, nL11, nL12, nL13, nL14, nL20, nL21, nL22, nL23, nL25, nL32, nL33, nL39, nL40, nL43, nL44, nL99, nL100, nL120, nL216, nL217, nL218, nL219, nL220, nL221, nL500, nL999, nL1000, nL10000, nL100000, n_in, i2l, jL0, jL1, jL2, jL6, jL20, qAv, qbi, qb1, qb0, qi0]
  (repeat' split) <;> first | rfl | (exfalso; (try simp (disch := omega) only [zN_neg1, nL0, nL1, nL2, nL3, nL4, nL5, nL6, nL7, nL8, nL9, nL10, nL11, nL12, nL13, nL14, nL20, nL21, nL22, nL23, nL25, nL32, nL33, nL39, nL40, nL43, nL44, nL99, nL100, nL120, nL216, nL217, nL218, nL219, nL220, nL221, nL500, nL999, nL1000, nL10000, nL100000, qLtI, qLeI, qEqI, zN_toInt, qM1I] at *); omega)
theorem n_isGreen {eq gq hq rq : Nat} (hs : sq < 4) (h1 : fq 218 = tq) (h2 : fq (44 + 43 * sq + 1) = zN gq) (h3 : fq (44 + 43 * sq + 2) = zN rq) (h4 : fq (44 + 43 * sq + 3) = zN hq) (h5 : 0 < gq) (h6 : gq ≤ 20) (h7 : rq ≤ 20) : pwX so 144 0 [some (.ref aq), some (.int (zN sq)), none] [] g (mkA aq 221 fq w) = some (.inl (some (.int (if tq + zN hq - (tq + zN hq) / zN (gq + rq) * zN (gq + rq) < zN gq then zN 1 else zN 0))), g, (mkA aq 221 fq w)) := by
  simp (disch := omega) only [s_X8_isGreen_0, s_X8_isGreen_1, s_X8_isGreen_4, s_X8_isGreen_5, s_X8_isGreen_6, s_X8_isGreen_9, s_X8_isGreen_10, s_X8_isGreen_11, s_X8_isGreen_12, s_X8_isGreen_13, s_X8_isGreen_14, s_X8_isGreen_15, s_X8_isGreen_16, s_X8_isGreen_17, s_X8_isGreen_18, s_X8_isGreen_19, s_X8_isGreen_20, s_X8_isGreen_21, s_X8_isGreen_22, s_X8_isGreen_23, s_X8_isGreen_24, s_X8_isGreen_25, s_X8_isGreen_26, s_X8_isGreen_27, s_X8_isGreen_28, s_X8_isGreen_29, s_X8_isGreen_30, s_X8_isGreen_31, s_X8_isGreen_32, s_X8_isGreen_33, s_X8_isGreen_36, s_X8_isGreen_37, s_X8_isGreen_40, s_X8_isGreen_41, zN_neg1, nL0, nL1, nL2, nL3, nL4, nL5, nL6, nL7, nL8, nL9, nL10, nL11, nL12, nL13, nL14, nL20, nL21, nL22, nL23, nL25, nL32, nL33, nL39, nL40, nL43, nL44, nL99, nL100, nL120, nL216, nL217, nL218, nL219, nL220, nL221, nL500, nL999, nL1000, nL10000, nL100000, qAv, ↓md_ld, n_block, zN_add, zN_eq, h1, h2, h3, h4, qT_lt, qF_lt, qT_le, qF_le, qT_eq, qF_eq, ↓reduceIte, and_true, true_and, false_and, and_false, not_true_eq_false, not_false_eq_true, decide_true, decide_false, Bool.true_or, Bool.or_true, Bool.false_or, Bool.or_false, cond_true, cond_false, qbi, qb1, qb0]
  (repeat' split) <;> first | rfl | (exfalso; (try simp (disch := omega) only [zN_neg1, nL0, nL1, nL2, nL3, nL4, nL5, nL6, nL7, nL8, nL9, nL10, nL11, nL12, nL13, nL14, nL20, nL21, nL22, nL23, nL25, nL32, nL33, nL39, nL40, nL43, nL44, nL99, nL100, nL120, nL216, nL217, nL218, nL219, nL220, nL221, nL500, nL999, nL1000, nL10000, nL100000, qLtI, qLeI, qEqI, zN_toInt, qM1I] at *); omega)
end QA

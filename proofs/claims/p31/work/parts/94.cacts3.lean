/-! the pure part: the class's actions called from outside -/
section QA
variable {so : Nat → Nat} {g : pwG} {xx : Nat} {w w1 : pwW} {Fq : FS} {pq kq rq tq uq : Int32}
theorem frm_t {wa wb wc : pwW} (h1 : frm xx wa wb) (h2 : frm xx wb wc) : frm xx wa wc := fun aq h => (h2 aq h).trans (h1 aq h)
theorem frm_T {bq : Nat} {xq : Int64} {sc : Nat → Int32} {Rq : Nat → Nat → Int32} (h1 : xx ≤ bq) (h2 : bq + 15 ≤ xx + 280) : frm xx w (mkT bq xq sc Rq w) := fun aq h => mkT_o (by omega)
/-- behind remember(): the town is there as it was -/
theorem rem_ (hC : clsW xx Fq w) : ∃ wr, clsW xx (Fq.1, Fq.2.1, pushH Fq.2.2.1 Fq.2.1, Fq.2.2.2) wr ∧ frm xx w wr ∧ pwX so 2 0 [some (.ref (xx + 36)), some (.ref (xx + 4)), none] [] g w = some (.inl none, g, wr) ∧ pwIsC w (xx + 36) 0 = true := by
  obtain ⟨wr, a, b, c⟩ := @m_remember so g xx w Fq hC
  obtain ⟨-, -, -, -, -, ⟨-, n1, -, e7, -⟩, -⟩ := hC
  exact ⟨wr, a, b, c, ci_ e7⟩
theorem x_walker (hC : clsW xx Fq w) : ∃ w1, clsW xx (fWalker Fq pq).2 w1 ∧ frm xx w w1 ∧ pwX so 106 0 [some (.ref xx), some (.int pq)] [] g w = some (oC (fun jq => if jq = 1 then 0 else 1) (fWalker Fq pq).1 g w1) := by
  have hg := @hx_g xx w Fq hC
  obtain ⟨t0, t1, t2, t3⟩ := hx_t hC
  have hC2 := hC
  obtain ⟨-, ⟨hI, xq, sc, Rq, hT, hw⟩, -⟩ := hC2
  have h4 := hI.1
  have b1 := @m_isFull so g (xx + 4) xq sc Rq w
  rw [← hw, hT.1.1.2.2.1] at b1
  unfold fWalker
  by_cases h1 : okL pq
  · rw [if_pos h1]
    by_cases h2 : tN Fq.2.1 1 < 10
    · rw [if_pos h2]
      obtain ⟨wr, d1, d2, d3, d4⟩ := @rem_ so g xx w Fq hC
      have hgr := @hx_g xx wr _ d1
      obtain ⟨s0, s1, s2, s3⟩ := hx_t d1
      have d9 := d1
      obtain ⟨-, ⟨hJ, xb, sb, Rb, hTb, hb⟩, -⟩ := d9
      obtain ⟨sa, Ra, a1, a2⟩ := @c_addWalker so g (xx + 4) xb sb Rb wr Fq.2.1 pq hJ hTb h2
      rw [← hb] at a2
      refine ⟨_, cls_town d1 (inv_Walker hI h2) a1, frm_t d2 (frm_T (by omega) (by omega)), ?_⟩
      rw [oC_0]
      simp (disch := omega) only [s_X7_walker_0, s_X7_walker_1, s_X7_walker_4, s_X7_walker_7, s_X7_walker_17, s_X7_walker_18, s_X7_walker_21, s_X7_walker_24, s_X7_walker_27, s_X7_walker_37, s_X7_walker_38, s_X7_walker_41, s_X7_walker_42, s_X7_walker_45, s_X7_walker_48, s_X7_walker_49, s_X7_walker_52, s_X7_walker_53, s_X7_walker_56, zN_neg1, nL0, nL1, nL2, nL3, nL4, nL5, nL6, nL7, nL8, nL9, nL10, nL11, nL12, nL13, nL14, nL20, nL21, nL22, nL23, nL25, nL32, nL33, nL39, nL40, nL43, nL44, nL99, nL100, nL120, nL216, nL217, nL218, nL219, nL220, nL221, nL500, nL999, nL1000, nL10000, nL100000, qLtI, qLeI, qEqI, zN_toInt, qM1I, iT_lt, iF_lt, iT_le, iF_le, iT_eq, iF_eq, ↓reduceIte, and_true, true_and, false_and, and_false, not_true_eq_false, not_false_eq_true, qAv, qAn, cond_true, cond_false, Option.bind_some, List.getElem?_cons_succ, List.getElem?_cons_zero, hg, hgr, t1, s1, m_isLetter, b1, d3, d4, a2]
    · rw [if_neg h2]
      refine ⟨w, hC, frm_s, ?_⟩
      show _ = some (oC _ (1 + 1, 0) g w)
      rw [oC_s]
      simp (disch := omega) only [s_X7_walker_0, s_X7_walker_1, s_X7_walker_4, s_X7_walker_7, s_X7_walker_17, s_X7_walker_18, s_X7_walker_21, s_X7_walker_24, s_X7_walker_27, s_X7_walker_37, s_X7_walker_38, s_X7_walker_41, s_X7_walker_42, s_X7_walker_45, s_X7_walker_48, s_X7_walker_49, s_X7_walker_52, s_X7_walker_53, s_X7_walker_56, zN_neg1, nL0, nL1, nL2, nL3, nL4, nL5, nL6, nL7, nL8, nL9, nL10, nL11, nL12, nL13, nL14, nL20, nL21, nL22, nL23, nL25, nL32, nL33, nL39, nL40, nL43, nL44, nL99, nL100, nL120, nL216, nL217, nL218, nL219, nL220, nL221, nL500, nL999, nL1000, nL10000, nL100000, qLtI, qLeI, qEqI, zN_toInt, qM1I, iT_lt, iF_lt, iT_le, iF_le, iT_eq, iF_eq, ↓reduceIte, and_true, true_and, false_and, and_false, not_true_eq_false, not_false_eq_true, qAv, qAn, cond_true, cond_false, Option.bind_some, List.getElem?_cons_succ, List.getElem?_cons_zero, hg, t1, m_isLetter, b1]; rfl
  · rw [if_neg h1]
    refine ⟨w, hC, frm_s, ?_⟩
    show _ = some (oC _ (0 + 1, 0) g w)
    rw [oC_s]
    by_cases h0 : 0 ≤ pq.toInt
    · simp (disch := omega) only [s_X7_walker_0, s_X7_walker_1, s_X7_walker_4, s_X7_walker_7, s_X7_walker_17, s_X7_walker_18, s_X7_walker_21, s_X7_walker_24, s_X7_walker_27, s_X7_walker_37, s_X7_walker_38, s_X7_walker_41, s_X7_walker_42, s_X7_walker_45, s_X7_walker_48, s_X7_walker_49, s_X7_walker_52, s_X7_walker_53, s_X7_walker_56, zN_neg1, nL0, nL1, nL2, nL3, nL4, nL5, nL6, nL7, nL8, nL9, nL10, nL11, nL12, nL13, nL14, nL20, nL21, nL22, nL23, nL25, nL32, nL33, nL39, nL40, nL43, nL44, nL99, nL100, nL120, nL216, nL217, nL218, nL219, nL220, nL221, nL500, nL999, nL1000, nL10000, nL100000, qLtI, qLeI, qEqI, zN_toInt, qM1I, iT_lt, iF_lt, iT_le, iF_le, iT_eq, iF_eq, ↓reduceIte, and_true, true_and, false_and, and_false, not_true_eq_false, not_false_eq_true, qAv, qAn, cond_true, cond_false, Option.bind_some, List.getElem?_cons_succ, List.getElem?_cons_zero, m_isLetter]; rfl
    · simp (disch := omega) only [s_X7_walker_0, s_X7_walker_1, s_X7_walker_4, s_X7_walker_7, s_X7_walker_17, s_X7_walker_18, s_X7_walker_21, s_X7_walker_24, s_X7_walker_27, s_X7_walker_37, s_X7_walker_38, s_X7_walker_41, s_X7_walker_42, s_X7_walker_45, s_X7_walker_48, s_X7_walker_49, s_X7_walker_52, s_X7_walker_53, s_X7_walker_56, zN_neg1, nL0, nL1, nL2, nL3, nL4, nL5, nL6, nL7, nL8, nL9, nL10, nL11, nL12, nL13, nL14, nL20, nL21, nL22, nL23, nL25, nL32, nL33, nL39, nL40, nL43, nL44, nL99, nL100, nL120, nL216, nL217, nL218, nL219, nL220, nL221, nL500, nL999, nL1000, nL10000, nL100000, qLtI, qLeI, qEqI, zN_toInt, qM1I, iT_lt, iF_lt, iT_le, iF_le, iT_eq, iF_eq, ↓reduceIte, and_true, true_and, false_and, and_false, not_true_eq_false, not_false_eq_true, qAv, qAn, cond_true, cond_false, Option.bind_some, List.getElem?_cons_succ, List.getElem?_cons_zero, m_isLetter]; rfl
theorem c_mayGrow {bq : Nat} {xq : Int64} {sc : Nat → Int32} {Rq : Nat → Nat → Int32} {Aq : TA} (hI : invT Aq) (hT : repT Aq xq sc Rq) : pwX so 43 0 [some (.ref bq)] [] g (mkT bq xq sc Rq w) = some (.inl (some (.int (if tN Aq 0 < 4 ∧ (tL Aq 0).length = 0 then zN 1 else zN 0))), g, (mkT bq xq sc Rq w)) := by
  have hcl := come_len hI
  obtain ⟨a, c⟩ := c_come2 hI hT
  exact m_mayGrow hT.1.1.2.1 hI.1.1 hT.1.1.2.2.1 hI.1.2.1 (by omega) a c
theorem laid_iff : ((zN 2 ≤ pq ∧ pq ≤ zN 20) ∧ (zN 1 ≤ rq ∧ rq ≤ zN 20) ∧ (zN 0 ≤ tq ∧ tq ≤ zN 20) ∧ zN 1 ≤ uq ∧ uq ≤ zN 6) ↔ okLd pq rq tq uq := by
  rw [qLeI, qLeI, qLeI, qLeI, qLeI, qLeI, qLeI, qLeI, zN_toInt (by decide), zN_toInt (by decide), zN_toInt (by decide), zN_toInt (by decide), zN_toInt (by decide)]; exact Iff.rfl
theorem m_isLaid {w : pwW} : pwX so 15 0 [some (.int pq), some (.int rq), some (.int tq), some (.int uq)] [] g w = some (.inl (some (.int (if okLd pq rq tq uq then zN 1 else zN 0))), g, w) := by
  rw [m_isStreet]
  by_cases h : okLd pq rq tq uq
  · rw [if_pos h, if_pos (laid_iff.mpr h)]
  · rw [if_neg h, if_neg (fun hh => h (laid_iff.mp hh))]
theorem x_street (hC : clsW xx Fq w) : ∃ w1, clsW xx (fStreet Fq pq rq tq uq).2 w1 ∧ frm xx w w1 ∧ pwX so 107 0 [some (.ref xx), some (.int pq), some (.int rq), some (.int tq), some (.int uq)] [] g w = some (oC (fun jq => if jq = 1 then 0 else 1) (fStreet Fq pq rq tq uq).1 g w1) := by
  have hg := @hx_g xx w Fq hC
  obtain ⟨t0, t1, t2, t3⟩ := hx_t hC
  have hC2 := hC
  obtain ⟨-, ⟨hI, xq, sc, Rq, hT, hw⟩, -⟩ := hC2
  have h4 := hI.1
  have b0 := @m_isLaid so g pq rq tq uq w
  have b1 := @c_mayGrow so g w (xx + 4) xq sc Rq Fq.2.1 hI hT
  rw [← hw] at b1
  unfold fStreet
  by_cases h1 : okLd pq rq tq uq
  · rw [if_pos h1] at b0
    rw [if_pos h1]
    by_cases h2 : tN Fq.2.1 0 < 4 ∧ (tL Fq.2.1 0).length = 0
    · rw [if_pos h2] at b1
      rw [if_pos h2]
      obtain ⟨wr, d1, d2, d3, d4⟩ := @rem_ so g xx w Fq hC
      have hgr := @hx_g xx wr _ d1
      obtain ⟨s0, s1, s2, s3⟩ := hx_t d1
      have d9 := d1
      obtain ⟨-, ⟨hJ, xb, sb, Rb, hTb, hb⟩, -⟩ := d9
      obtain ⟨⟨p1, p2⟩, ⟨r1, r2⟩, ⟨z1, z2⟩, v1, v2⟩ := h1
      obtain ⟨ap, rfl, ap2, ap3, ap4⟩ := un_ex (pq := pq) (by omega)
      obtain ⟨ar, rfl, ar2, ar3, ar4⟩ := un_ex (pq := rq) (by omega)
      obtain ⟨at_, rfl, at2, at3, at4⟩ := un_ex (pq := tq) (by omega)
      obtain ⟨au, rfl, au2, au3, au4⟩ := un_ex (pq := uq) (by omega)
      rw [ap4, ar4, at4, au4]
      obtain ⟨sa, Ra, a1, a2⟩ := @c_addStreet so g (xx + 4) xb sb Rb wr Fq.2.1 ap ar at_ au hTb h2.1
      rw [← hb] at a2
      refine ⟨_, cls_town d1 (inv_Add hI h2.1 (List.eq_nil_of_length_eq_zero h2.2) ⟨by omega, by omega⟩ ⟨by omega, by omega⟩ (by omega) ⟨by omega, by omega⟩) a1, frm_t d2 (frm_T (by omega) (by omega)), ?_⟩
      rw [oC_0]
      simp (disch := omega) only [s_X7_street_0, s_X7_street_1, s_X7_street_2, s_X7_street_3, s_X7_street_5, s_X7_street_8, s_X7_street_11, s_X7_street_21, s_X7_street_22, s_X7_street_25, s_X7_street_28, s_X7_street_31, s_X7_street_41, s_X7_street_42, s_X7_street_45, s_X7_street_46, s_X7_street_49, s_X7_street_52, s_X7_street_53, s_X7_street_56, s_X7_street_59, s_X7_street_60, s_X7_street_61, s_X7_street_62, s_X7_street_64, s_X7_street_67, zN_neg1, nL0, nL1, nL2, nL3, nL4, nL5, nL6, nL7, nL8, nL9, nL10, nL11, nL12, nL13, nL14, nL20, nL21, nL22, nL23, nL25, nL32, nL33, nL39, nL40, nL43, nL44, nL99, nL100, nL120, nL216, nL217, nL218, nL219, nL220, nL221, nL500, nL999, nL1000, nL10000, nL100000, ↓reduceIte, qAv, qAn, cond_true, Option.bind_some, List.getElem?_cons_succ, List.getElem?_cons_zero, zN_eq, qT_eq, qF_eq, hg, hgr, t1, s0, s1, s2, b0, b1, d3, d4, a2]
    · rw [if_neg h2] at b1
      rw [if_neg h2]
      refine ⟨w, hC, frm_s, ?_⟩
      show _ = some (oC _ (1 + 1, 0) g w)
      rw [oC_s]
      simp (disch := omega) only [s_X7_street_0, s_X7_street_1, s_X7_street_2, s_X7_street_3, s_X7_street_5, s_X7_street_8, s_X7_street_11, s_X7_street_21, s_X7_street_22, s_X7_street_25, s_X7_street_28, s_X7_street_31, s_X7_street_41, s_X7_street_42, s_X7_street_45, s_X7_street_46, s_X7_street_49, s_X7_street_52, s_X7_street_53, s_X7_street_56, s_X7_street_59, s_X7_street_60, s_X7_street_61, s_X7_street_62, s_X7_street_64, s_X7_street_67, zN_neg1, nL0, nL1, nL2, nL3, nL4, nL5, nL6, nL7, nL8, nL9, nL10, nL11, nL12, nL13, nL14, nL20, nL21, nL22, nL23, nL25, nL32, nL33, nL39, nL40, nL43, nL44, nL99, nL100, nL120, nL216, nL217, nL218, nL219, nL220, nL221, nL500, nL999, nL1000, nL10000, nL100000, qLtI, qLeI, qEqI, zN_toInt, qM1I, iT_lt, iF_lt, iT_le, iF_le, iT_eq, iF_eq, ↓reduceIte, and_true, true_and, false_and, and_false, not_true_eq_false, not_false_eq_true, qAv, qAn, cond_true, cond_false, Option.bind_some, List.getElem?_cons_succ, List.getElem?_cons_zero, hg, t1, b0, b1]; rfl
  · rw [if_neg h1] at b0
    rw [if_neg h1]
    refine ⟨w, hC, frm_s, ?_⟩
    show _ = some (oC _ (0 + 1, 0) g w)
    rw [oC_s]
    simp (disch := omega) only [s_X7_street_0, s_X7_street_1, s_X7_street_2, s_X7_street_3, s_X7_street_5, s_X7_street_8, s_X7_street_11, s_X7_street_21, s_X7_street_22, s_X7_street_25, s_X7_street_28, s_X7_street_31, s_X7_street_41, s_X7_street_42, s_X7_street_45, s_X7_street_46, s_X7_street_49, s_X7_street_52, s_X7_street_53, s_X7_street_56, s_X7_street_59, s_X7_street_60, s_X7_street_61, s_X7_street_62, s_X7_street_64, s_X7_street_67, zN_neg1, nL0, nL1, nL2, nL3, nL4, nL5, nL6, nL7, nL8, nL9, nL10, nL11, nL12, nL13, nL14, nL20, nL21, nL22, nL23, nL25, nL32, nL33, nL39, nL40, nL43, nL44, nL99, nL100, nL120, nL216, nL217, nL218, nL219, nL220, nL221, nL500, nL999, nL1000, nL10000, nL100000, qLtI, qLeI, qEqI, zN_toInt, qM1I, iT_lt, iF_lt, iT_le, iF_le, iT_eq, iF_eq, ↓reduceIte, and_true, true_and, false_and, and_false, not_true_eq_false, not_false_eq_true, qAv, qAn, cond_true, cond_false, Option.bind_some, List.getElem?_cons_succ, List.getElem?_cons_zero, b0]; rfl
theorem x_shift (hC : clsW xx Fq w) : ∃ w1, clsW xx (fShift Fq kq pq).2 w1 ∧ frm xx w w1 ∧ pwX so 108 0 [some (.ref xx), some (.int kq), some (.int pq)] [] g w = some (oC (fun jq => if jq = 1 then 2 else 0) (fShift Fq kq pq).1 g w1) := by
  have hg := @hx_g xx w Fq hC
  obtain ⟨t0, t1, t2, t3⟩ := hx_t hC
  have hh := @hasS so g xx w Fq kq hC
  unfold fShift
  by_cases h0 : isSd Fq.2.1 kq
  · rw [if_pos h0] at hh
    rw [if_pos h0]
    by_cases h1 : okSh pq
    · rw [if_pos h1]
      obtain ⟨wr, d1, d2, d3, d4⟩ := @rem_ so g xx w Fq hC
      have hgr := @hx_g xx wr _ d1
      obtain ⟨s0, s1, s2, s3⟩ := hx_t d1
      have d9 := d1
      obtain ⟨-, ⟨hJ, xb, sb, Rb, hTb, hb⟩, -⟩ := d9
      obtain ⟨p1, p2⟩ := h1
      have h02 := h0.2
      obtain ⟨k9, rfl, e4, e5, e6⟩ := un_ex h0.1
      obtain ⟨ap, rfl, ap2, ap3, ap4⟩ := un_ex (pq := pq) (by omega)
      rw [ap4, e6]
      obtain ⟨Ra, a1, a2⟩ := @c_shift so g (xx + 4) xb sb Rb wr Fq.2.1 k9 ap hJ hTb (by show k9 < tN Fq.2.1 0; omega)
      rw [← hb] at a2
      have h4 := hJ.1
      have h4 : tN Fq.2.1 0 ≤ 4 := h4.1
      refine ⟨_, cls_town d1 (inv_Num hJ (Or.inr (Or.inr ⟨by omega, by omega, by omega⟩))) a1, frm_t d2 (frm_T (by omega) (by omega)), ?_⟩
      rw [oC_0]
      simp (disch := omega) only [s_X7_shift_0, s_X7_shift_1, s_X7_shift_4, s_X7_shift_7, s_X7_shift_8, s_X7_shift_11, s_X7_shift_14, s_X7_shift_24, s_X7_shift_25, s_X7_shift_28, s_X7_shift_31, s_X7_shift_41, s_X7_shift_42, s_X7_shift_45, s_X7_shift_46, s_X7_shift_49, s_X7_shift_52, s_X7_shift_53, s_X7_shift_56, s_X7_shift_59, s_X7_shift_60, s_X7_shift_61, s_X7_shift_64, zN_neg1, nL0, nL1, nL2, nL3, nL4, nL5, nL6, nL7, nL8, nL9, nL10, nL11, nL12, nL13, nL14, nL20, nL21, nL22, nL23, nL25, nL32, nL33, nL39, nL40, nL43, nL44, nL99, nL100, nL120, nL216, nL217, nL218, nL219, nL220, nL221, nL500, nL999, nL1000, nL10000, nL100000, qLtI, qLeI, qEqI, zN_toInt, qM1I, iT_lt, iF_lt, iT_le, iF_le, iT_eq, iF_eq, ↓reduceIte, and_true, true_and, false_and, and_false, not_true_eq_false, not_false_eq_true, qAv, qAn, cond_true, cond_false, Option.bind_some, List.getElem?_cons_succ, List.getElem?_cons_zero, hg, hgr, t0, t1, t2, s0, s1, s2, m_isShift, hh, d3, d4, a2]
    · rw [if_neg h1]
      refine ⟨w, hC, frm_s, ?_⟩
      show _ = some (oC _ (1 + 1, 0) g w)
      rw [oC_s]
      by_cases h5 : 0 ≤ pq.toInt
      · simp (disch := omega) only [s_X7_shift_0, s_X7_shift_1, s_X7_shift_4, s_X7_shift_7, s_X7_shift_8, s_X7_shift_11, s_X7_shift_14, s_X7_shift_24, s_X7_shift_25, s_X7_shift_28, s_X7_shift_31, s_X7_shift_41, s_X7_shift_42, s_X7_shift_45, s_X7_shift_46, s_X7_shift_49, s_X7_shift_52, s_X7_shift_53, s_X7_shift_56, s_X7_shift_59, s_X7_shift_60, s_X7_shift_61, s_X7_shift_64, zN_neg1, nL0, nL1, nL2, nL3, nL4, nL5, nL6, nL7, nL8, nL9, nL10, nL11, nL12, nL13, nL14, nL20, nL21, nL22, nL23, nL25, nL32, nL33, nL39, nL40, nL43, nL44, nL99, nL100, nL120, nL216, nL217, nL218, nL219, nL220, nL221, nL500, nL999, nL1000, nL10000, nL100000, qLtI, qLeI, qEqI, zN_toInt, qM1I, iT_lt, iF_lt, iT_le, iF_le, iT_eq, iF_eq, ↓reduceIte, and_true, true_and, false_and, and_false, not_true_eq_false, not_false_eq_true, qAv, qAn, cond_true, cond_false, Option.bind_some, List.getElem?_cons_succ, List.getElem?_cons_zero, hg, t0, t1, t2, m_isShift, hh]; rfl
      · simp (disch := omega) only [s_X7_shift_0, s_X7_shift_1, s_X7_shift_4, s_X7_shift_7, s_X7_shift_8, s_X7_shift_11, s_X7_shift_14, s_X7_shift_24, s_X7_shift_25, s_X7_shift_28, s_X7_shift_31, s_X7_shift_41, s_X7_shift_42, s_X7_shift_45, s_X7_shift_46, s_X7_shift_49, s_X7_shift_52, s_X7_shift_53, s_X7_shift_56, s_X7_shift_59, s_X7_shift_60, s_X7_shift_61, s_X7_shift_64, zN_neg1, nL0, nL1, nL2, nL3, nL4, nL5, nL6, nL7, nL8, nL9, nL10, nL11, nL12, nL13, nL14, nL20, nL21, nL22, nL23, nL25, nL32, nL33, nL39, nL40, nL43, nL44, nL99, nL100, nL120, nL216, nL217, nL218, nL219, nL220, nL221, nL500, nL999, nL1000, nL10000, nL100000, qLtI, qLeI, qEqI, zN_toInt, qM1I, iT_lt, iF_lt, iT_le, iF_le, iT_eq, iF_eq, ↓reduceIte, and_true, true_and, false_and, and_false, not_true_eq_false, not_false_eq_true, qAv, qAn, cond_true, cond_false, Option.bind_some, List.getElem?_cons_succ, List.getElem?_cons_zero, hg, t0, t1, t2, m_isShift, hh]; rfl
  · rw [if_neg h0] at hh
    rw [if_neg h0]
    refine ⟨w, hC, frm_s, ?_⟩
    show _ = some (oC _ (0 + 1, 0) g w)
    rw [oC_s]
    simp (disch := omega) only [s_X7_shift_0, s_X7_shift_1, s_X7_shift_4, s_X7_shift_7, s_X7_shift_8, s_X7_shift_11, s_X7_shift_14, s_X7_shift_24, s_X7_shift_25, s_X7_shift_28, s_X7_shift_31, s_X7_shift_41, s_X7_shift_42, s_X7_shift_45, s_X7_shift_46, s_X7_shift_49, s_X7_shift_52, s_X7_shift_53, s_X7_shift_56, s_X7_shift_59, s_X7_shift_60, s_X7_shift_61, s_X7_shift_64, zN_neg1, nL0, nL1, nL2, nL3, nL4, nL5, nL6, nL7, nL8, nL9, nL10, nL11, nL12, nL13, nL14, nL20, nL21, nL22, nL23, nL25, nL32, nL33, nL39, nL40, nL43, nL44, nL99, nL100, nL120, nL216, nL217, nL218, nL219, nL220, nL221, nL500, nL999, nL1000, nL10000, nL100000, qLtI, qLeI, qEqI, zN_toInt, qM1I, iT_lt, iF_lt, iT_le, iF_le, iT_eq, iF_eq, ↓reduceIte, and_true, true_and, false_and, and_false, not_true_eq_false, not_false_eq_true, qAv, qAn, cond_true, cond_false, Option.bind_some, List.getElem?_cons_succ, List.getElem?_cons_zero, hg, t0, t1, t2, hh]; rfl
theorem x_letter (hC : clsW xx Fq w) : ∃ w1, clsW xx (fLetter Fq kq pq).2 w1 ∧ frm xx w w1 ∧ pwX so 109 0 [some (.ref xx), some (.int kq), some (.int pq)] [] g w = some (oC (fun jq => if jq = 1 then 2 else 0) (fLetter Fq kq pq).1 g w1) := by
  have hg := @hx_g xx w Fq hC
  obtain ⟨t0, t1, t2, t3⟩ := hx_t hC
  have hh := @hasW so g xx w Fq kq hC
  unfold fLetter
  by_cases h0 : isWd Fq.2.1 kq
  · rw [if_pos h0] at hh
    rw [if_pos h0]
    by_cases h1 : okL pq
    · rw [if_pos h1]
      obtain ⟨wr, d1, d2, d3, d4⟩ := @rem_ so g xx w Fq hC
      have hgr := @hx_g xx wr _ d1
      obtain ⟨s0, s1, s2, s3⟩ := hx_t d1
      have d9 := d1
      obtain ⟨-, ⟨hJ, xb, sb, Rb, hTb, hb⟩, -⟩ := d9
      obtain ⟨p1, p2⟩ := h1
      have h02 := h0.2
      obtain ⟨k9, rfl, e4, e5, e6⟩ := un_ex h0.1
      rw [e6]
      obtain ⟨Ra, a1, a2⟩ := @c_letter so g (xx + 4) xb sb Rb wr Fq.2.1 k9 pq hJ hTb (by show k9 < tN Fq.2.1 1; omega)
      rw [← hb] at a2
      refine ⟨_, cls_town d1 (inv_Letter hJ) a1, frm_t d2 (frm_T (by omega) (by omega)), ?_⟩
      rw [oC_0]
      simp (disch := omega) only [s_X7_letter_0, s_X7_letter_1, s_X7_letter_4, s_X7_letter_5, s_X7_letter_8, s_X7_letter_11, s_X7_letter_21, s_X7_letter_22, s_X7_letter_25, s_X7_letter_28, s_X7_letter_38, s_X7_letter_39, s_X7_letter_42, s_X7_letter_43, s_X7_letter_46, s_X7_letter_49, s_X7_letter_50, s_X7_letter_53, s_X7_letter_54, s_X7_letter_55, s_X7_letter_58, zN_neg1, nL0, nL1, nL2, nL3, nL4, nL5, nL6, nL7, nL8, nL9, nL10, nL11, nL12, nL13, nL14, nL20, nL21, nL22, nL23, nL25, nL32, nL33, nL39, nL40, nL43, nL44, nL99, nL100, nL120, nL216, nL217, nL218, nL219, nL220, nL221, nL500, nL999, nL1000, nL10000, nL100000, qLtI, qLeI, qEqI, zN_toInt, qM1I, iT_lt, iF_lt, iT_le, iF_le, iT_eq, iF_eq, ↓reduceIte, and_true, true_and, false_and, and_false, not_true_eq_false, not_false_eq_true, qAv, qAn, cond_true, cond_false, Option.bind_some, List.getElem?_cons_succ, List.getElem?_cons_zero, hg, hgr, t1, s1, m_isLetter, hh, d3, d4, a2]
    · rw [if_neg h1]
      refine ⟨w, hC, frm_s, ?_⟩
      show _ = some (oC _ (1 + 1, 0) g w)
      rw [oC_s]
      by_cases h5 : 0 ≤ pq.toInt
      · simp (disch := omega) only [s_X7_letter_0, s_X7_letter_1, s_X7_letter_4, s_X7_letter_5, s_X7_letter_8, s_X7_letter_11, s_X7_letter_21, s_X7_letter_22, s_X7_letter_25, s_X7_letter_28, s_X7_letter_38, s_X7_letter_39, s_X7_letter_42, s_X7_letter_43, s_X7_letter_46, s_X7_letter_49, s_X7_letter_50, s_X7_letter_53, s_X7_letter_54, s_X7_letter_55, s_X7_letter_58, zN_neg1, nL0, nL1, nL2, nL3, nL4, nL5, nL6, nL7, nL8, nL9, nL10, nL11, nL12, nL13, nL14, nL20, nL21, nL22, nL23, nL25, nL32, nL33, nL39, nL40, nL43, nL44, nL99, nL100, nL120, nL216, nL217, nL218, nL219, nL220, nL221, nL500, nL999, nL1000, nL10000, nL100000, qLtI, qLeI, qEqI, zN_toInt, qM1I, iT_lt, iF_lt, iT_le, iF_le, iT_eq, iF_eq, ↓reduceIte, and_true, true_and, false_and, and_false, not_true_eq_false, not_false_eq_true, qAv, qAn, cond_true, cond_false, Option.bind_some, List.getElem?_cons_succ, List.getElem?_cons_zero, hg, t1, m_isLetter, hh]; rfl
      · simp (disch := omega) only [s_X7_letter_0, s_X7_letter_1, s_X7_letter_4, s_X7_letter_5, s_X7_letter_8, s_X7_letter_11, s_X7_letter_21, s_X7_letter_22, s_X7_letter_25, s_X7_letter_28, s_X7_letter_38, s_X7_letter_39, s_X7_letter_42, s_X7_letter_43, s_X7_letter_46, s_X7_letter_49, s_X7_letter_50, s_X7_letter_53, s_X7_letter_54, s_X7_letter_55, s_X7_letter_58, zN_neg1, nL0, nL1, nL2, nL3, nL4, nL5, nL6, nL7, nL8, nL9, nL10, nL11, nL12, nL13, nL14, nL20, nL21, nL22, nL23, nL25, nL32, nL33, nL39, nL40, nL43, nL44, nL99, nL100, nL120, nL216, nL217, nL218, nL219, nL220, nL221, nL500, nL999, nL1000, nL10000, nL100000, qLtI, qLeI, qEqI, zN_toInt, qM1I, iT_lt, iF_lt, iT_le, iF_le, iT_eq, iF_eq, ↓reduceIte, and_true, true_and, false_and, and_false, not_true_eq_false, not_false_eq_true, qAv, qAn, cond_true, cond_false, Option.bind_some, List.getElem?_cons_succ, List.getElem?_cons_zero, hg, t1, m_isLetter, hh]; rfl
  · rw [if_neg h0] at hh
    rw [if_neg h0]
    refine ⟨w, hC, frm_s, ?_⟩
    show _ = some (oC _ (0 + 1, 0) g w)
    rw [oC_s]
    simp (disch := omega) only [s_X7_letter_0, s_X7_letter_1, s_X7_letter_4, s_X7_letter_5, s_X7_letter_8, s_X7_letter_11, s_X7_letter_21, s_X7_letter_22, s_X7_letter_25, s_X7_letter_28, s_X7_letter_38, s_X7_letter_39, s_X7_letter_42, s_X7_letter_43, s_X7_letter_46, s_X7_letter_49, s_X7_letter_50, s_X7_letter_53, s_X7_letter_54, s_X7_letter_55, s_X7_letter_58, zN_neg1, nL0, nL1, nL2, nL3, nL4, nL5, nL6, nL7, nL8, nL9, nL10, nL11, nL12, nL13, nL14, nL20, nL21, nL22, nL23, nL25, nL32, nL33, nL39, nL40, nL43, nL44, nL99, nL100, nL120, nL216, nL217, nL218, nL219, nL220, nL221, nL500, nL999, nL1000, nL10000, nL100000, qLtI, qLeI, qEqI, zN_toInt, qM1I, iT_lt, iF_lt, iT_le, iF_le, iT_eq, iF_eq, ↓reduceIte, and_true, true_and, false_and, and_false, not_true_eq_false, not_false_eq_true, qAv, qAn, cond_true, cond_false, Option.bind_some, List.getElem?_cons_succ, List.getElem?_cons_zero, hg, t1, hh]; rfl
theorem x_back (hC : clsW xx Fq w) : ∃ w1, clsW xx (fBack Fq).2 w1 ∧ frm xx w w1 ∧ pwX so 111 0 [some (.ref xx)] [] g w = some (oC (fun _ => 0) (fBack Fq).1 g w1) := by
  have hg := @hx_g xx w Fq hC
  obtain ⟨wr, d1, d2, d3, d4⟩ := @rem_ so g xx w Fq hC
  have hgr := @hx_g xx wr _ d1
  obtain ⟨s0, s1, s2, s3⟩ := hx_t d1
  have d9 := d1
  obtain ⟨-, ⟨hJ, xb, sb, Rb, hTb, hb⟩, -⟩ := d9
  obtain ⟨Ra, a1, a2⟩ := @c_back so g (xx + 4) xb sb Rb wr Fq.2.1 hJ hTb
  rw [← hb] at a2
  refine ⟨_, cls_town d1 (inv_Back hJ) a1, frm_t d2 (frm_T (by omega) (by omega)), ?_⟩
  show _ = some (oC _ (0, _) g _)
  rw [oC_0]
  simp (disch := omega) only [s_X7_back_0, s_X7_back_1, s_X7_back_4, s_X7_back_5, s_X7_back_8, s_X7_back_11, s_X7_back_12, s_X7_back_15, s_X7_back_18, zN_neg1, nL0, nL1, nL2, nL3, nL4, nL5, nL6, nL7, nL8, nL9, nL10, nL11, nL12, nL13, nL14, nL20, nL21, nL22, nL23, nL25, nL32, nL33, nL39, nL40, nL43, nL44, nL99, nL100, nL120, nL216, nL217, nL218, nL219, nL220, nL221, nL500, nL999, nL1000, nL10000, nL100000, qLtI, qLeI, qEqI, zN_toInt, qM1I, iT_lt, iF_lt, iT_le, iF_le, iT_eq, iF_eq, ↓reduceIte, and_true, true_and, false_and, and_false, not_true_eq_false, not_false_eq_true, qAv, qAn, cond_true, cond_false, Option.bind_some, List.getElem?_cons_succ, List.getElem?_cons_zero, hg, hgr, s1, d3, d4, a2]
end QA

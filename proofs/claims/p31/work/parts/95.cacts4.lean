/-! the pure part: the class: exchanges, settings, ticks, allIn, later -/
section QA
variable {so : Nat → Nat} {g : pwG} {xx bq : Nat} {w w1 : pwW} {Fq : FS} {pq kq rq tq uq : Int32} {Aq Bq : TA} {xq : Int64} {sc : Nat → Int32} {Rq : Nat → Nat → Int32}
theorem x_exch (hC : clsW xx Fq w) : ∃ w1, clsW xx (fExch Fq kq pq).2 w1 ∧ frm xx w w1 ∧ pwX so 110 0 [some (.ref xx), some (.int kq), some (.int pq)] [] g w = some (oC (fun jq => if jq = 1 then 2 else if jq = 2 then 0 else 1) (fExch Fq kq pq).1 g w1) := by
  have hg := @hx_g xx w Fq hC
  obtain ⟨t0, t1, t2, t3⟩ := hx_t hC
  have hk := @hasW so g xx w Fq kq hC
  have hp := @hasW so g xx w Fq pq hC
  unfold fExch
  by_cases h0 : isWd Fq.2.1 kq
  · rw [if_pos h0] at hk
    by_cases h1 : isWd Fq.2.1 pq
    · rw [if_pos h1] at hp
      rw [if_pos ⟨h0, h1⟩]
      have h02 := h0.2
      have h12 := h1.2
      obtain ⟨k9, rfl, e4, e5, e6⟩ := un_ex h0.1
      obtain ⟨p9, rfl, e7, e8, e9⟩ := un_ex h1.1
      rw [e6, e9]
      by_cases h2 : k9 = p9
      · subst h2
        rw [if_pos rfl]
        refine ⟨w, hC, frm_s, ?_⟩
        show _ = some (oC _ (1 + 1, 0) g w)
        rw [oC_s]
        simp (disch := omega) only [s_X7_exchange_0, s_X7_exchange_1, s_X7_exchange_4, s_X7_exchange_5, s_X7_exchange_8, s_X7_exchange_11, s_X7_exchange_12, s_X7_exchange_15, s_X7_exchange_16, s_X7_exchange_19, s_X7_exchange_22, s_X7_exchange_32, s_X7_exchange_33, s_X7_exchange_34, s_X7_exchange_37, s_X7_exchange_47, s_X7_exchange_48, s_X7_exchange_51, s_X7_exchange_52, s_X7_exchange_55, s_X7_exchange_58, s_X7_exchange_59, s_X7_exchange_62, s_X7_exchange_63, s_X7_exchange_66, s_X7_exchange_69, s_X7_exchange_79, s_X7_exchange_80, s_X7_exchange_83, s_X7_exchange_84, s_X7_exchange_87, s_X7_exchange_90, s_X7_exchange_91, s_X7_exchange_94, s_X7_exchange_95, s_X7_exchange_96, s_X7_exchange_99, zN_neg1, nL0, nL1, nL2, nL3, nL4, nL5, nL6, nL7, nL8, nL9, nL10, nL11, nL12, nL13, nL14, nL20, nL21, nL22, nL23, nL25, nL32, nL33, nL39, nL40, nL43, nL44, nL99, nL100, nL120, nL216, nL217, nL218, nL219, nL220, nL221, nL500, nL999, nL1000, nL10000, nL100000, qLtI, qLeI, qEqI, zN_toInt, qM1I, iT_lt, iF_lt, iT_le, iF_le, iT_eq, iF_eq, ↓reduceIte, and_true, true_and, false_and, and_false, not_true_eq_false, not_false_eq_true, qAv, qAn, cond_true, cond_false, Option.bind_some, List.getElem?_cons_succ, List.getElem?_cons_zero, hg, t1, hk, hp]; rfl
      · rw [if_neg h2]
        have hC2 := hC
        obtain ⟨-, ⟨hI, xq, sc, Rq, hT, hw⟩, -⟩ := hC2
        have a1 := @c_hasCome so g (xx + 4) xq sc Rq w Fq.2.1 k9 hI hT (by omega)
        have a2 := @c_hasCome so g (xx + 4) xq sc Rq w Fq.2.1 p9 hI hT (by omega)
        rw [← hw] at a1 a2
        by_cases h3 : k9 ∈ tL Fq.2.1 0
        · rw [if_pos h3] at a1
          rw [if_pos (Or.inl h3)]
          refine ⟨w, hC, frm_s, ?_⟩
          show _ = some (oC _ (2 + 1, 0) g w)
          rw [oC_s]
          simp (disch := omega) only [s_X7_exchange_0, s_X7_exchange_1, s_X7_exchange_4, s_X7_exchange_5, s_X7_exchange_8, s_X7_exchange_11, s_X7_exchange_12, s_X7_exchange_15, s_X7_exchange_16, s_X7_exchange_19, s_X7_exchange_22, s_X7_exchange_32, s_X7_exchange_33, s_X7_exchange_34, s_X7_exchange_37, s_X7_exchange_47, s_X7_exchange_48, s_X7_exchange_51, s_X7_exchange_52, s_X7_exchange_55, s_X7_exchange_58, s_X7_exchange_59, s_X7_exchange_62, s_X7_exchange_63, s_X7_exchange_66, s_X7_exchange_69, s_X7_exchange_79, s_X7_exchange_80, s_X7_exchange_83, s_X7_exchange_84, s_X7_exchange_87, s_X7_exchange_90, s_X7_exchange_91, s_X7_exchange_94, s_X7_exchange_95, s_X7_exchange_96, s_X7_exchange_99, zN_neg1, nL0, nL1, nL2, nL3, nL4, nL5, nL6, nL7, nL8, nL9, nL10, nL11, nL12, nL13, nL14, nL20, nL21, nL22, nL23, nL25, nL32, nL33, nL39, nL40, nL43, nL44, nL99, nL100, nL120, nL216, nL217, nL218, nL219, nL220, nL221, nL500, nL999, nL1000, nL10000, nL100000, qLtI, qLeI, qEqI, zN_toInt, qM1I, iT_lt, iF_lt, iT_le, iF_le, iT_eq, iF_eq, ↓reduceIte, and_true, true_and, false_and, and_false, not_true_eq_false, not_false_eq_true, qAv, qAn, cond_true, cond_false, Option.bind_some, List.getElem?_cons_succ, List.getElem?_cons_zero, hg, t1, hk, hp, a1]; rfl
        · rw [if_neg h3] at a1
          by_cases h5 : p9 ∈ tL Fq.2.1 0
          · rw [if_pos h5] at a2
            rw [if_pos (Or.inr h5)]
            refine ⟨w, hC, frm_s, ?_⟩
            show _ = some (oC _ (2 + 1, 0) g w)
            rw [oC_s]
            simp (disch := omega) only [s_X7_exchange_0, s_X7_exchange_1, s_X7_exchange_4, s_X7_exchange_5, s_X7_exchange_8, s_X7_exchange_11, s_X7_exchange_12, s_X7_exchange_15, s_X7_exchange_16, s_X7_exchange_19, s_X7_exchange_22, s_X7_exchange_32, s_X7_exchange_33, s_X7_exchange_34, s_X7_exchange_37, s_X7_exchange_47, s_X7_exchange_48, s_X7_exchange_51, s_X7_exchange_52, s_X7_exchange_55, s_X7_exchange_58, s_X7_exchange_59, s_X7_exchange_62, s_X7_exchange_63, s_X7_exchange_66, s_X7_exchange_69, s_X7_exchange_79, s_X7_exchange_80, s_X7_exchange_83, s_X7_exchange_84, s_X7_exchange_87, s_X7_exchange_90, s_X7_exchange_91, s_X7_exchange_94, s_X7_exchange_95, s_X7_exchange_96, s_X7_exchange_99, zN_neg1, nL0, nL1, nL2, nL3, nL4, nL5, nL6, nL7, nL8, nL9, nL10, nL11, nL12, nL13, nL14, nL20, nL21, nL22, nL23, nL25, nL32, nL33, nL39, nL40, nL43, nL44, nL99, nL100, nL120, nL216, nL217, nL218, nL219, nL220, nL221, nL500, nL999, nL1000, nL10000, nL100000, qLtI, qLeI, qEqI, zN_toInt, qM1I, iT_lt, iF_lt, iT_le, iF_le, iT_eq, iF_eq, ↓reduceIte, and_true, true_and, false_and, and_false, not_true_eq_false, not_false_eq_true, qAv, qAn, cond_true, cond_false, Option.bind_some, List.getElem?_cons_succ, List.getElem?_cons_zero, hg, t1, hk, hp, a1, a2]; rfl
          · rw [if_neg h5] at a2
            rw [if_neg (fun h => h.elim h3 h5)]
            obtain ⟨wr, d1, d2, d3, d4⟩ := @rem_ so g xx w Fq hC
            have hgr := @hx_g xx wr _ d1
            obtain ⟨s0, s1, s2, s3⟩ := hx_t d1
            have d9 := d1
            obtain ⟨-, ⟨hJ, xb, sb, Rb, hTb, hb⟩, -⟩ := d9
            obtain ⟨Ra, b1, b2⟩ := @c_swapW so g (xx + 4) xb sb Rb wr Fq.2.1 k9 p9 hJ hTb (by show k9 < tN Fq.2.1 1; omega) (by show p9 < tN Fq.2.1 1; omega)
            rw [← hb] at b2
            refine ⟨_, cls_town d1 (inv_Swap hJ (by show k9 < tN Fq.2.1 1; omega) (by show p9 < tN Fq.2.1 1; omega)) b1, frm_t d2 (frm_T (by omega) (by omega)), ?_⟩
            show _ = some (oC _ (0, _) g _)
            rw [oC_0]
            simp (disch := omega) only [s_X7_exchange_0, s_X7_exchange_1, s_X7_exchange_4, s_X7_exchange_5, s_X7_exchange_8, s_X7_exchange_11, s_X7_exchange_12, s_X7_exchange_15, s_X7_exchange_16, s_X7_exchange_19, s_X7_exchange_22, s_X7_exchange_32, s_X7_exchange_33, s_X7_exchange_34, s_X7_exchange_37, s_X7_exchange_47, s_X7_exchange_48, s_X7_exchange_51, s_X7_exchange_52, s_X7_exchange_55, s_X7_exchange_58, s_X7_exchange_59, s_X7_exchange_62, s_X7_exchange_63, s_X7_exchange_66, s_X7_exchange_69, s_X7_exchange_79, s_X7_exchange_80, s_X7_exchange_83, s_X7_exchange_84, s_X7_exchange_87, s_X7_exchange_90, s_X7_exchange_91, s_X7_exchange_94, s_X7_exchange_95, s_X7_exchange_96, s_X7_exchange_99, zN_neg1, nL0, nL1, nL2, nL3, nL4, nL5, nL6, nL7, nL8, nL9, nL10, nL11, nL12, nL13, nL14, nL20, nL21, nL22, nL23, nL25, nL32, nL33, nL39, nL40, nL43, nL44, nL99, nL100, nL120, nL216, nL217, nL218, nL219, nL220, nL221, nL500, nL999, nL1000, nL10000, nL100000, qLtI, qLeI, qEqI, zN_toInt, qM1I, iT_lt, iF_lt, iT_le, iF_le, iT_eq, iF_eq, ↓reduceIte, and_true, true_and, false_and, and_false, not_true_eq_false, not_false_eq_true, qAv, qAn, cond_true, cond_false, Option.bind_some, List.getElem?_cons_succ, List.getElem?_cons_zero, hg, hgr, t1, s1, hk, hp, a1, a2, d3, d4, b2]
    · rw [if_neg h1] at hp
      rw [if_neg (fun h => h1 h.2)]
      refine ⟨w, hC, frm_s, ?_⟩
      show _ = some (oC _ (0 + 1, 0) g w)
      rw [oC_s]
      simp (disch := omega) only [s_X7_exchange_0, s_X7_exchange_1, s_X7_exchange_4, s_X7_exchange_5, s_X7_exchange_8, s_X7_exchange_11, s_X7_exchange_12, s_X7_exchange_15, s_X7_exchange_16, s_X7_exchange_19, s_X7_exchange_22, s_X7_exchange_32, s_X7_exchange_33, s_X7_exchange_34, s_X7_exchange_37, s_X7_exchange_47, s_X7_exchange_48, s_X7_exchange_51, s_X7_exchange_52, s_X7_exchange_55, s_X7_exchange_58, s_X7_exchange_59, s_X7_exchange_62, s_X7_exchange_63, s_X7_exchange_66, s_X7_exchange_69, s_X7_exchange_79, s_X7_exchange_80, s_X7_exchange_83, s_X7_exchange_84, s_X7_exchange_87, s_X7_exchange_90, s_X7_exchange_91, s_X7_exchange_94, s_X7_exchange_95, s_X7_exchange_96, s_X7_exchange_99, zN_neg1, nL0, nL1, nL2, nL3, nL4, nL5, nL6, nL7, nL8, nL9, nL10, nL11, nL12, nL13, nL14, nL20, nL21, nL22, nL23, nL25, nL32, nL33, nL39, nL40, nL43, nL44, nL99, nL100, nL120, nL216, nL217, nL218, nL219, nL220, nL221, nL500, nL999, nL1000, nL10000, nL100000, qLtI, qLeI, qEqI, zN_toInt, qM1I, iT_lt, iF_lt, iT_le, iF_le, iT_eq, iF_eq, ↓reduceIte, and_true, true_and, false_and, and_false, not_true_eq_false, not_false_eq_true, qAv, qAn, cond_true, cond_false, Option.bind_some, List.getElem?_cons_succ, List.getElem?_cons_zero, hg, t1, hk, hp]; rfl
  · rw [if_neg h0] at hk
    rw [if_neg (fun h => h0 h.1)]
    refine ⟨w, hC, frm_s, ?_⟩
    show _ = some (oC _ (0 + 1, 0) g w)
    rw [oC_s]
    simp (disch := omega) only [s_X7_exchange_0, s_X7_exchange_1, s_X7_exchange_4, s_X7_exchange_5, s_X7_exchange_8, s_X7_exchange_11, s_X7_exchange_12, s_X7_exchange_15, s_X7_exchange_16, s_X7_exchange_19, s_X7_exchange_22, s_X7_exchange_32, s_X7_exchange_33, s_X7_exchange_34, s_X7_exchange_37, s_X7_exchange_47, s_X7_exchange_48, s_X7_exchange_51, s_X7_exchange_52, s_X7_exchange_55, s_X7_exchange_58, s_X7_exchange_59, s_X7_exchange_62, s_X7_exchange_63, s_X7_exchange_66, s_X7_exchange_69, s_X7_exchange_79, s_X7_exchange_80, s_X7_exchange_83, s_X7_exchange_84, s_X7_exchange_87, s_X7_exchange_90, s_X7_exchange_91, s_X7_exchange_94, s_X7_exchange_95, s_X7_exchange_96, s_X7_exchange_99, zN_neg1, nL0, nL1, nL2, nL3, nL4, nL5, nL6, nL7, nL8, nL9, nL10, nL11, nL12, nL13, nL14, nL20, nL21, nL22, nL23, nL25, nL32, nL33, nL39, nL40, nL43, nL44, nL99, nL100, nL120, nL216, nL217, nL218, nL219, nL220, nL221, nL500, nL999, nL1000, nL10000, nL100000, qLtI, qLeI, qEqI, zN_toInt, qM1I, iT_lt, iF_lt, iT_le, iF_le, iT_eq, iF_eq, ↓reduceIte, and_true, true_and, false_and, and_false, not_true_eq_false, not_false_eq_true, qAv, qAn, cond_true, cond_false, Option.bind_some, List.getElem?_cons_succ, List.getElem?_cons_zero, hg, t1, hk]; rfl
theorem set_iff : ((kq = zN 0 ∧ zN 0 ≤ pq ∧ pq < zN 4) ∨ (kq = zN 1 ∧ (pq = zN 0 ∨ pq = zN 1))) ↔ okSt kq pq := by
  rw [qEqI, qEqI, qEqI, qEqI, qLeI, qLtI, zN_toInt (by decide), zN_toInt (by decide), zN_toInt (by decide)]
  show _ ↔ (kq.toInt = 0 ∧ 0 ≤ pq.toInt ∧ pq.toInt ≤ 3) ∨ (kq.toInt = 1 ∧ 0 ≤ pq.toInt ∧ pq.toInt ≤ 1)
  omega
theorem m_isSet {w : pwW} : pwX so 36 0 [some (.int kq), some (.int pq)] [] g w = some (.inl (some (.int (if okSt kq pq then zN 1 else zN 0))), g, w) := by
  rw [m_isSetting]
  by_cases h : okSt kq pq
  · rw [if_pos h, if_pos (set_iff.mpr h)]
  · rw [if_neg h, if_neg (fun hh => h (set_iff.mp hh))]
theorem c_set {k9 p9 : Nat} (hk : k9 ≤ 1) (hI : invT Aq) (hT : repT Aq xq sc Rq) : ∃ s1, repT (tNum Aq (2 + k9) p9) xq s1 Rq ∧ pwX so 62 0 [some (.ref bq), some (.int (zN k9)), some (.int (zN p9)), none] [] g (mkT bq xq sc Rq w) = some (.inl (some (.int (zN (tN Aq (2 + k9))))), g, (mkT bq xq s1 Rq w)) := by
  have h9 : k9 = 0 ∨ k9 = 1 := by omega
  rcases h9 with rfl | rfl
  · obtain ⟨a, b⟩ := @c_rule so g bq xq sc Rq w Aq p9 hT
    exact ⟨_, a, b⟩
  · obtain ⟨a, b⟩ := @c_mixs so g bq xq sc Rq w Aq p9 hT
    exact ⟨_, a, b⟩
theorem x_set (hC : clsW xx Fq w) : ∃ w1, clsW xx (fSet Fq kq pq).2 w1 ∧ frm xx w w1 ∧ pwX so 112 0 [some (.ref xx), some (.int kq), some (.int pq)] [] g w = some (oC (fun _ => 0) (fSet Fq kq pq).1 g w1) := by
  have hg := @hx_g xx w Fq hC
  have b0 := @m_isSet so g pq kq w
  unfold fSet
  by_cases h1 : okSt kq pq
  · rw [if_pos h1] at b0
    rw [if_pos h1]
    obtain ⟨wr, d1, d2, d3, d4⟩ := @rem_ so g xx w Fq hC
    have hgr := @hx_g xx wr _ d1
    obtain ⟨s0, s1, s2, s3⟩ := hx_t d1
    have d9 := d1
    obtain ⟨-, ⟨hJ, xb, sb, Rb, hTb, hb⟩, -⟩ := d9
    obtain ⟨k9, rfl, e4, e5, e6⟩ := un_ex (pq := kq) (by omega)
    obtain ⟨p9, rfl, e7, e8, e9⟩ := un_ex (pq := pq) (by omega)
    rw [e6, e9]
    obtain ⟨sa, a1, a2⟩ := @c_set so g (xx + 4) wr Fq.2.1 xb sb Rb k9 p9 (by omega) hJ hTb
    rw [← hb] at a2
    refine ⟨_, cls_town d1 (inv_Num hJ (by omega)) a1, frm_t d2 (frm_T (by omega) (by omega)), ?_⟩
    show _ = some (oC _ (0, _) g _)
    rw [oC_0]
    simp (disch := omega) only [s_X7_set_0, s_X7_set_1, s_X7_set_2, s_X7_set_5, s_X7_set_8, s_X7_set_18, s_X7_set_19, s_X7_set_22, s_X7_set_23, s_X7_set_26, s_X7_set_29, s_X7_set_30, s_X7_set_33, s_X7_set_34, s_X7_set_35, s_X7_set_38, zN_neg1, nL0, nL1, nL2, nL3, nL4, nL5, nL6, nL7, nL8, nL9, nL10, nL11, nL12, nL13, nL14, nL20, nL21, nL22, nL23, nL25, nL32, nL33, nL39, nL40, nL43, nL44, nL99, nL100, nL120, nL216, nL217, nL218, nL219, nL220, nL221, nL500, nL999, nL1000, nL10000, nL100000, ↓reduceIte, qAv, qAn, cond_true, Option.bind_some, List.getElem?_cons_succ, List.getElem?_cons_zero, zN_eq, qT_eq, qF_eq, hg, hgr, s1, b0, d3, d4, a2]
  · rw [if_neg h1] at b0
    rw [if_neg h1]
    refine ⟨w, hC, frm_s, ?_⟩
    show _ = some (oC _ (0 + 1, 0) g w)
    rw [oC_s]
    simp (disch := omega) only [s_X7_set_0, s_X7_set_1, s_X7_set_2, s_X7_set_5, s_X7_set_8, s_X7_set_18, s_X7_set_19, s_X7_set_22, s_X7_set_23, s_X7_set_26, s_X7_set_29, s_X7_set_30, s_X7_set_33, s_X7_set_34, s_X7_set_35, s_X7_set_38, zN_neg1, nL0, nL1, nL2, nL3, nL4, nL5, nL6, nL7, nL8, nL9, nL10, nL11, nL12, nL13, nL14, nL20, nL21, nL22, nL23, nL25, nL32, nL33, nL39, nL40, nL43, nL44, nL99, nL100, nL120, nL216, nL217, nL218, nL219, nL220, nL221, nL500, nL999, nL1000, nL10000, nL100000, qLtI, qLeI, qEqI, zN_toInt, qM1I, iT_lt, iF_lt, iT_le, iF_le, iT_eq, iF_eq, ↓reduceIte, and_true, true_and, false_and, and_false, not_true_eq_false, not_false_eq_true, qAv, qAn, cond_true, cond_false, Option.bind_some, List.getElem?_cons_succ, List.getElem?_cons_zero, b0]; rfl
theorem m_isTk {w : pwW} : pwX so 37 0 [some (.int pq)] [] g w = some (.inl (some (.int (if okTk pq then zN 1 else zN 0))), g, w) := by
  rw [m_isTicks]
  have h9 : (zN 1 ≤ pq ∧ pq ≤ zN 99) ↔ okTk pq := by
    rw [qLeI, qLeI, zN_toInt (by decide), zN_toInt (by decide)]; exact Iff.rfl
  by_cases h : okTk pq
  · rw [if_pos h, if_pos (h9.mpr h)]
  · rw [if_neg h, if_neg (fun hh => h (h9.mp hh))]
theorem c_triesTicks (hI : invT Aq) (hT : repT Aq xq sc Rq) : ∃ x1 sc1 R1, repT (if okTk pq then tTicks (un pq) Aq else Aq) x1 sc1 R1 ∧ pwX so 68 0 [some (.ref bq), some (.int pq), none] [] g (mkT bq xq sc Rq w) = some (.inl (some (.int (if okTk pq then zN 1 else zN 0))), g, (mkT bq x1 sc1 R1 w)) := by
  have b0 := @m_isTk so g pq (mkT bq xq sc Rq w)
  by_cases h : okTk pq
  · rw [if_pos h] at b0
    rw [if_pos h, if_pos h]
    obtain ⟨p9, rfl, e7, e8, e9⟩ := un_ex (pq := pq) (by omega)
    rw [e9]
    obtain ⟨x1, sc1, R1, a1, a2⟩ := @c_ticks11 so g bq w p9 e8 p9 0 Aq xq sc Rq (by omega) hI hT
    refine ⟨x1, sc1, R1, a1, ?_⟩
    simp (disch := omega) only [s_X5_triesTicks_0, s_X5_triesTicks_1, s_X5_triesTicks_4, s_X5_triesTicks_7, s_X5_triesTicks_8, s_X5_triesTicks_9, s_X5_triesTicks_10, zN_neg1, nL0, nL1, nL2, nL3, nL4, nL5, nL6, nL7, nL8, nL9, nL10, nL11, nL12, nL13, nL14, nL20, nL21, nL22, nL23, nL25, nL32, nL33, nL39, nL40, nL43, nL44, nL99, nL100, nL120, nL216, nL217, nL218, nL219, nL220, nL221, nL500, nL999, nL1000, nL10000, nL100000, ↓reduceIte, qAv, zN_eq, qT_eq, qF_eq, b0]
    exact a2
  · rw [if_neg h] at b0
    rw [if_neg h, if_neg h]
    refine ⟨xq, sc, Rq, hT, ?_⟩
    simp (disch := omega) only [s_X5_triesTicks_0, s_X5_triesTicks_1, s_X5_triesTicks_4, s_X5_triesTicks_7, s_X5_triesTicks_8, s_X5_triesTicks_9, s_X5_triesTicks_10, zN_neg1, nL0, nL1, nL2, nL3, nL4, nL5, nL6, nL7, nL8, nL9, nL10, nL11, nL12, nL13, nL14, nL20, nL21, nL22, nL23, nL25, nL32, nL33, nL39, nL40, nL43, nL44, nL99, nL100, nL120, nL216, nL217, nL218, nL219, nL220, nL221, nL500, nL999, nL1000, nL10000, nL100000, ↓reduceIte, qAv, zN_eq, qT_eq, qF_eq, b0, qbi, qb1, qb0]
theorem x_ticks (hC : clsW xx Fq w) : ∃ w1, clsW xx (fTicks Fq pq).2 w1 ∧ frm xx w w1 ∧ pwX so 113 0 [some (.ref xx), some (.int pq), none] [] g w = some (oC (fun _ => 0) (fTicks Fq pq).1 g w1) := by
  have hg := @hx_g xx w Fq hC
  have b0 := @m_isTk so g pq w
  unfold fTicks
  by_cases h1 : okTk pq
  · rw [if_pos h1] at b0
    rw [if_pos h1]
    obtain ⟨wr, d1, d2, d3, d4⟩ := @rem_ so g xx w Fq hC
    have hgr := @hx_g xx wr _ d1
    obtain ⟨s0, s1, s2, s3⟩ := hx_t d1
    have d9 := d1
    obtain ⟨-, ⟨hJ, xb, sb, Rb, hTb, hb⟩, -⟩ := d9
    have hJ : invT Fq.2.1 := hJ
    have e1 := @c_come so g (xx + 4) xb sb Rb wr Fq.2.1 hJ hTb
    obtain ⟨x1, sc1, R1, a1, a2⟩ := @c_triesTicks so g (xx + 4) wr pq Fq.2.1 xb sb Rb hJ hTb
    rw [if_pos h1] at a1 a2
    have e2 := @c_come so g (xx + 4) x1 sc1 R1 wr (tTicks (un pq) Fq.2.1) (inv_Ticks _ _ hJ) a1
    rw [← hb] at e1 a2
    have hC3 := cls_town d1 (inv_Ticks (un pq) _ hJ) a1
    have hg3 := @hx_g xx _ _ hC3
    obtain ⟨u0, u1, u2, u3⟩ := hx_t hC3
    refine ⟨_, hC3, frm_t d2 (frm_T (by omega) (by omega)), ?_⟩
    show _ = some (oC _ (0, _) g _)
    rw [oC_0]
    simp (disch := omega) only [s_X7_ticks_0, s_X7_ticks_1, s_X7_ticks_4, s_X7_ticks_7, s_X7_ticks_17, s_X7_ticks_18, s_X7_ticks_21, s_X7_ticks_22, s_X7_ticks_25, s_X7_ticks_28, s_X7_ticks_29, s_X7_ticks_32, s_X7_ticks_35, s_X7_ticks_36, s_X7_ticks_37, s_X7_ticks_40, s_X7_ticks_41, s_X7_ticks_44, s_X7_ticks_45, s_X7_ticks_46, s_X7_ticks_49, s_X7_ticks_52, s_X7_ticks_53, s_X7_ticks_54, zN_neg1, nL0, nL1, nL2, nL3, nL4, nL5, nL6, nL7, nL8, nL9, nL10, nL11, nL12, nL13, nL14, nL20, nL21, nL22, nL23, nL25, nL32, nL33, nL39, nL40, nL43, nL44, nL99, nL100, nL120, nL216, nL217, nL218, nL219, nL220, nL221, nL500, nL999, nL1000, nL10000, nL100000, ↓reduceIte, qAv, qAn, cond_true, Option.bind_some, List.getElem?_cons_succ, List.getElem?_cons_zero, zN_eq, qT_eq, qF_eq, hg, hgr, hg3, s1, u1, b0, d3, d4, e1, a2, e2]
  · rw [if_neg h1] at b0
    rw [if_neg h1]
    refine ⟨w, hC, frm_s, ?_⟩
    show _ = some (oC _ (0 + 1, 0) g w)
    rw [oC_s]
    simp (disch := omega) only [s_X7_ticks_0, s_X7_ticks_1, s_X7_ticks_4, s_X7_ticks_7, s_X7_ticks_17, s_X7_ticks_18, s_X7_ticks_21, s_X7_ticks_22, s_X7_ticks_25, s_X7_ticks_28, s_X7_ticks_29, s_X7_ticks_32, s_X7_ticks_35, s_X7_ticks_36, s_X7_ticks_37, s_X7_ticks_40, s_X7_ticks_41, s_X7_ticks_44, s_X7_ticks_45, s_X7_ticks_46, s_X7_ticks_49, s_X7_ticks_52, s_X7_ticks_53, s_X7_ticks_54, zN_neg1, nL0, nL1, nL2, nL3, nL4, nL5, nL6, nL7, nL8, nL9, nL10, nL11, nL12, nL13, nL14, nL20, nL21, nL22, nL23, nL25, nL32, nL33, nL39, nL40, nL43, nL44, nL99, nL100, nL120, nL216, nL217, nL218, nL219, nL220, nL221, nL500, nL999, nL1000, nL10000, nL100000, qLtI, qLeI, qEqI, zN_toInt, qM1I, iT_lt, iF_lt, iT_le, iF_le, iT_eq, iF_eq, ↓reduceIte, and_true, true_and, false_and, and_false, not_true_eq_false, not_false_eq_true, qAv, qAn, cond_true, cond_false, Option.bind_some, List.getElem?_cons_succ, List.getElem?_cons_zero, b0]; rfl
/-- the trial becomes the town -/
theorem tri_ (hC : clsW xx Fq w) : ∃ xb sb Rb, invT Fq.2.1 ∧ repT Fq.2.1 xb sb Rb ∧ pwIsC w (xx + 19) 4 = true ∧ pwX so 39 0 [some (.ref (xx + 19)), some (.ref (xx + 4))] [] g w = some (.inl none, g, (mkT (xx + 19) xb sb Rb w)) := by
  obtain ⟨-, ⟨hI, xq, sc, Rq, hT, hw⟩, ⟨xa, sa, Ra, hb⟩, -⟩ := hC
  obtain ⟨sz, Rz, a1, a2⟩ := @c_become so g (xx + 19) (xx + 4) xa xq sa sc Ra Rq w Fq.2.1 (by omega) hI hT
  rw [← hw, ← hb] at a2
  exact ⟨xq, sz, Rz, hI, a1, by rw [hb]; exact mkT_i, a2⟩
theorem x_allIn (hC : clsW xx Fq w) : ∃ w1, clsW xx Fq w1 ∧ frm xx w w1 ∧ pwX so 115 0 [some (.ref xx)] [] g w = some (oC (fun _ => 0) (0, tIn 1000 0 Fq.2.1) g w1) := by
  have hg := @hx_g xx w Fq hC
  obtain ⟨xb, sb, Rb, hI, a1, i1, a2⟩ := @tri_ so g xx w Fq hC
  have hC3 := @cls_trial xx w xb sb Rb Fq hC
  have hg3 := @hx_g xx _ _ hC3
  obtain ⟨x1, s1, R1, b1⟩ := @c_until so g (xx + 19) xb sb Rb w Fq.2.1 hI a1
  refine ⟨mkT (xx + 19) x1 s1 R1 w, cls_trial hC, frm_T (by omega) (by omega), ?_⟩
  rw [oC_0]
  simp (disch := omega) only [s_X7_allIn_0, s_X7_allIn_1, s_X7_allIn_4, s_X7_allIn_5, s_X7_allIn_8, s_X7_allIn_11, s_X7_allIn_12, s_X7_allIn_15, s_X7_allIn_18, zN_neg1, nL0, nL1, nL2, nL3, nL4, nL5, nL6, nL7, nL8, nL9, nL10, nL11, nL12, nL13, nL14, nL20, nL21, nL22, nL23, nL25, nL32, nL33, nL39, nL40, nL43, nL44, nL99, nL100, nL120, nL216, nL217, nL218, nL219, nL220, nL221, nL500, nL999, nL1000, nL10000, nL100000, qLtI, qLeI, qEqI, zN_toInt, qM1I, iT_lt, iF_lt, iT_le, iF_le, iT_eq, iF_eq, ↓reduceIte, and_true, true_and, false_and, and_false, not_true_eq_false, not_false_eq_true, qAv, qAn, cond_true, cond_false, Option.bind_some, List.getElem?_cons_succ, List.getElem?_cons_zero, hg, hg3, i1, mkT_i, a2, b1]
theorem aTold_same {wq : Nat} (h1 : tL Bq = tL Aq) (h2 : tC Bq = tC Aq) (h3 : tN Bq = tN Aq) (h4 : tE Bq = tE Aq) (hw : wq ≠ 2) : aTold Bq wq = aTold Aq wq := by
  have e1 : wAll Bq = wAll Aq := wAll_same h1 h2 (by rw [h3])
  have e2 : wF Bq = wF Aq := by funext iq; unfold wF; rw [e1]
  unfold aTold aCe aCr aWr aRt aEx
  rw [h1, h2, h3, h4, e1, e2]
  simp only [hw, if_false]
theorem sT_eq (h : ∀ tz, sT Bq tz = sT Aq tz) : tL Bq = tL Aq ∧ tC Bq = tC Aq ∧ tN Bq = tN Aq ∧ tE Bq = tE Aq := by
  have h0 := h 0
  have e1 := congrArg Prod.fst h0
  have e2 := congrArg (fun zq : TA => zq.2.1) h0
  have e3 := congrArg (fun zq : TA => zq.2.2.1) h0
  have e4 := congrArg (fun zq : TA => zq.2.2.2.1) h0
  exact ⟨e1, e2, e3, e4⟩
def fLater (Fq : FS) (pq kq : Int32) : Nat × Int32 := if (1 ≤ pq.toInt ∧ pq.toInt ≤ 500) ∧ 3 ≤ kq.toInt ∧ kq.toInt ≤ 10 then (0, aTold (tTicks (un pq) Fq.2.1) (un kq)) else (1, 0)
theorem x_later (hC : clsW xx Fq w) : ∃ w1, clsW xx Fq w1 ∧ frm xx w w1 ∧ pwX so 116 0 [some (.ref xx), some (.int pq), some (.int kq)] [] g w = some (oC (fun _ => 0) (fLater Fq pq kq) g w1) := by
  have hg := @hx_g xx w Fq hC
  unfold fLater
  by_cases h1 : (1 ≤ pq.toInt ∧ pq.toInt ≤ 500) ∧ 3 ≤ kq.toInt ∧ kq.toInt ≤ 10
  · rw [if_pos h1]
    obtain ⟨p9, rfl, e7, e8, e9⟩ := un_ex (pq := pq) (by omega)
    obtain ⟨k9, rfl, e4, e5, e6⟩ := un_ex (pq := kq) (by omega)
    rw [e9, e6]
    obtain ⟨xb, sb, Rb, hI, a1, i1, a2⟩ := @tri_ so g xx w Fq hC
    have hC3 := @cls_trial xx w xb sb Rb Fq hC
    have hg3 := @hx_g xx _ _ hC3
    obtain ⟨B9, x1, s1, R1, hB, b1, b2, b3⟩ := @c_run so g (xx + 19) xb sb Rb w Fq.2.1 p9 e8 hI a1
    have hC4 := @cls_trial xx w x1 s1 R1 Fq hC
    have hg4 := @hx_g xx _ _ hC4
    obtain ⟨u0, u1, u2, u3⟩ := hx_t hC4
    obtain ⟨-, -, -, ⟨h4, fr, h5⟩, -⟩ := hC
    obtain ⟨f1, c⟩ := @c_told so g (xx + 19) (xx + 34) (xx + 35) x1 s1 R1 w B9 fr k9 hB b1 (by omega) (by omega) (by omega) (by rw [cg h4]; rfl) (ci_ h4) (by omega)
    have hm : mkA (xx + 35) 10 fr w = w := by
      funext aq
      by_cases hx : aq = xx + 35
      · rw [hx, mkA_s, h5]
      · rw [mkA_o hx]
    rw [hm] at c
    have hw2 : mkT (xx + 19) x1 s1 R1 (mkA (xx + 35) 10 f1 w) = mkA (xx + 35) 10 f1 (mkT (xx + 19) x1 s1 R1 w) := by
      funext aq
      by_cases hx : aq = xx + 35
      · rw [hx, mkT_o (by omega), mkA_s, mkA_s]
      · rw [mkA_o hx]
        unfold mkT
        split
        · rfl
        · split
          · rfl
          · split
            · rfl
            · rw [mkA_o hx]
    rw [hw2] at c
    refine ⟨mkA (xx + 35) 10 f1 (mkT (xx + 19) x1 s1 R1 w), cls_rise hC4, fun aq ha => by rw [mkA_o (by omega), mkT_o (by omega)], ?_⟩
    obtain ⟨z1, z2, z3, z4⟩ := sT_eq b2
    rw [aTold_same z1 z2 z3 z4 (by omega)] at c
    rw [oC_0]
    simp (disch := omega) only [s_X7_later_0, s_X7_later_1, s_X7_later_2, s_X7_later_5, s_X7_later_6, s_X7_later_9, s_X7_later_12, s_X7_later_13, s_X7_later_14, s_X7_later_17, s_X7_later_18, s_X7_later_20, s_X7_later_23, s_X7_later_33, s_X7_later_34, s_X7_later_37, s_X7_later_38, s_X7_later_41, s_X7_later_44, s_X7_later_45, s_X7_later_48, s_X7_later_49, s_X7_later_52, s_X7_later_53, s_X7_later_56, s_X7_later_57, s_X7_later_60, s_X7_later_61, s_X7_later_64, zN_neg1, nL0, nL1, nL2, nL3, nL4, nL5, nL6, nL7, nL8, nL9, nL10, nL11, nL12, nL13, nL14, nL20, nL21, nL22, nL23, nL25, nL32, nL33, nL39, nL40, nL43, nL44, nL99, nL100, nL120, nL216, nL217, nL218, nL219, nL220, nL221, nL500, nL999, nL1000, nL10000, nL100000, qLtI, qLeI, qEqI, zN_toInt, qM1I, iT_lt, iF_lt, iT_le, iF_le, iT_eq, iF_eq, ↓reduceIte, and_true, true_and, false_and, and_false, not_true_eq_false, not_false_eq_true, qAv, qAn, cond_true, cond_false, Option.bind_some, List.getElem?_cons_succ, List.getElem?_cons_zero, hg, hg3, hg4, i1, mkT_i, u3, a2, b3, c]
  · rw [if_neg h1]
    refine ⟨w, hC, frm_s, ?_⟩
    show _ = some (oC _ (0 + 1, 0) g w)
    rw [oC_s]
    by_cases q1 : 1 ≤ pq.toInt
    · by_cases q2 : pq.toInt ≤ 500
      · by_cases q3 : 3 ≤ kq.toInt
        · simp (disch := omega) only [s_X7_later_0, s_X7_later_1, s_X7_later_2, s_X7_later_5, s_X7_later_6, s_X7_later_9, s_X7_later_12, s_X7_later_13, s_X7_later_14, s_X7_later_17, s_X7_later_18, s_X7_later_20, s_X7_later_23, s_X7_later_33, s_X7_later_34, s_X7_later_37, s_X7_later_38, s_X7_later_41, s_X7_later_44, s_X7_later_45, s_X7_later_48, s_X7_later_49, s_X7_later_52, s_X7_later_53, s_X7_later_56, s_X7_later_57, s_X7_later_60, s_X7_later_61, s_X7_later_64, zN_neg1, nL0, nL1, nL2, nL3, nL4, nL5, nL6, nL7, nL8, nL9, nL10, nL11, nL12, nL13, nL14, nL20, nL21, nL22, nL23, nL25, nL32, nL33, nL39, nL40, nL43, nL44, nL99, nL100, nL120, nL216, nL217, nL218, nL219, nL220, nL221, nL500, nL999, nL1000, nL10000, nL100000, qLtI, qLeI, qEqI, zN_toInt, qM1I, iT_lt, iF_lt, iT_le, iF_le, iT_eq, iF_eq, ↓reduceIte, and_true, true_and, false_and, and_false, not_true_eq_false, not_false_eq_true, qAv, qAn, cond_true, cond_false, Option.bind_some, List.getElem?_cons_succ, List.getElem?_cons_zero]; rfl
        · simp (disch := omega) only [s_X7_later_0, s_X7_later_1, s_X7_later_2, s_X7_later_5, s_X7_later_6, s_X7_later_9, s_X7_later_12, s_X7_later_13, s_X7_later_14, s_X7_later_17, s_X7_later_18, s_X7_later_20, s_X7_later_23, s_X7_later_33, s_X7_later_34, s_X7_later_37, s_X7_later_38, s_X7_later_41, s_X7_later_44, s_X7_later_45, s_X7_later_48, s_X7_later_49, s_X7_later_52, s_X7_later_53, s_X7_later_56, s_X7_later_57, s_X7_later_60, s_X7_later_61, s_X7_later_64, zN_neg1, nL0, nL1, nL2, nL3, nL4, nL5, nL6, nL7, nL8, nL9, nL10, nL11, nL12, nL13, nL14, nL20, nL21, nL22, nL23, nL25, nL32, nL33, nL39, nL40, nL43, nL44, nL99, nL100, nL120, nL216, nL217, nL218, nL219, nL220, nL221, nL500, nL999, nL1000, nL10000, nL100000, qLtI, qLeI, qEqI, zN_toInt, qM1I, iT_lt, iF_lt, iT_le, iF_le, iT_eq, iF_eq, ↓reduceIte, and_true, true_and, false_and, and_false, not_true_eq_false, not_false_eq_true, qAv, qAn, cond_true, cond_false, Option.bind_some, List.getElem?_cons_succ, List.getElem?_cons_zero]; rfl
      · simp (disch := omega) only [s_X7_later_0, s_X7_later_1, s_X7_later_2, s_X7_later_5, s_X7_later_6, s_X7_later_9, s_X7_later_12, s_X7_later_13, s_X7_later_14, s_X7_later_17, s_X7_later_18, s_X7_later_20, s_X7_later_23, s_X7_later_33, s_X7_later_34, s_X7_later_37, s_X7_later_38, s_X7_later_41, s_X7_later_44, s_X7_later_45, s_X7_later_48, s_X7_later_49, s_X7_later_52, s_X7_later_53, s_X7_later_56, s_X7_later_57, s_X7_later_60, s_X7_later_61, s_X7_later_64, zN_neg1, nL0, nL1, nL2, nL3, nL4, nL5, nL6, nL7, nL8, nL9, nL10, nL11, nL12, nL13, nL14, nL20, nL21, nL22, nL23, nL25, nL32, nL33, nL39, nL40, nL43, nL44, nL99, nL100, nL120, nL216, nL217, nL218, nL219, nL220, nL221, nL500, nL999, nL1000, nL10000, nL100000, qLtI, qLeI, qEqI, zN_toInt, qM1I, iT_lt, iF_lt, iT_le, iF_le, iT_eq, iF_eq, ↓reduceIte, and_true, true_and, false_and, and_false, not_true_eq_false, not_false_eq_true, qAv, qAn, cond_true, cond_false, Option.bind_some, List.getElem?_cons_succ, List.getElem?_cons_zero]; rfl
    · simp (disch := omega) only [s_X7_later_0, s_X7_later_1, s_X7_later_2, s_X7_later_5, s_X7_later_6, s_X7_later_9, s_X7_later_12, s_X7_later_13, s_X7_later_14, s_X7_later_17, s_X7_later_18, s_X7_later_20, s_X7_later_23, s_X7_later_33, s_X7_later_34, s_X7_later_37, s_X7_later_38, s_X7_later_41, s_X7_later_44, s_X7_later_45, s_X7_later_48, s_X7_later_49, s_X7_later_52, s_X7_later_53, s_X7_later_56, s_X7_later_57, s_X7_later_60, s_X7_later_61, s_X7_later_64, zN_neg1, nL0, nL1, nL2, nL3, nL4, nL5, nL6, nL7, nL8, nL9, nL10, nL11, nL12, nL13, nL14, nL20, nL21, nL22, nL23, nL25, nL32, nL33, nL39, nL40, nL43, nL44, nL99, nL100, nL120, nL216, nL217, nL218, nL219, nL220, nL221, nL500, nL999, nL1000, nL10000, nL100000, qLtI, qLeI, qEqI, zN_toInt, qM1I, iT_lt, iF_lt, iT_le, iF_le, iT_eq, iF_eq, ↓reduceIte, and_true, true_and, false_and, and_false, not_true_eq_false, not_false_eq_true, qAv, qAn, cond_true, cond_false, Option.bind_some, List.getElem?_cons_succ, List.getElem?_cons_zero]; rfl
end QA

/-! the pure part: the class: the best exchange; slots; the text buffer -/
section QA
variable {so : Nat → Nat} {g : pwG} {xx bq : Nat} {w w1 : pwW} {Fq : FS} {pq kq rq tq uq : Int32} {Aq Bq : TA} {xq : Int64} {sc : Nat → Int32} {Rq : Nat → Nat → Int32} {k9 o9 : Nat}
theorem sw_sw : tSwap (tSwap Aq k9 o9) k9 o9 = Aq := by
  have h1 : tL (tSwap (tSwap Aq k9 o9) k9 o9) = tL Aq := by
    funext jq
    by_cases h : jq < 8
    · rw [sw_L h, sw_L h, List.map_map]
      exact (List.map_congr_left fun vq _ => swp_swp).trans (List.map_id _)
    · rw [sw_R (by omega), sw_R (by omega)]
  have h2 : tC (tSwap (tSwap Aq k9 o9) k9 o9) = tC Aq := by
    funext sq
    rw [sw_C, sw_C, List.map_map]
    exact (List.map_congr_left (g := id) fun eq _ => by show (eq.1, swp k9 o9 (swp k9 o9 eq.2)) = eq; rw [swp_swp]).trans (List.map_id _)
  exact Prod.ext h1 (Prod.ext h2 rfl)
/-- the world between: only the trial differs, and it stands for the town -/
def triW (xx : Nat) (Fq : FS) (w w1 : pwW) : Prop := ∃ xb sb Rb, repT Fq.2.1 xb sb Rb ∧ w1 = mkT (xx + 19) xb sb Rb w
theorem triW_c (hC : clsW xx Fq w) (h : triW xx Fq w w1) : clsW xx Fq w1 ∧ frm xx w w1 := by
  obtain ⟨xb, sb, Rb, -, h⟩ := h
  rw [h]; exact ⟨cls_trial hC, frm_T (by omega) (by omega)⟩
theorem mkT_mkT {xa : Int64} {sa : Nat → Int32} {Ra : Nat → Nat → Int32} : mkT bq xa sa Ra (mkT bq xq sc Rq w) = mkT bq xa sa Ra w := by
  funext aq
  unfold mkT
  split
  · rfl
  · split
    · rfl
    · split <;> rfl
theorem m_gain (hC : clsW xx Fq w) (hz : triW xx Fq w w1) (hk : k9 < tN Fq.2.1 1) (ho : o9 < tN Fq.2.1 1) : ∃ w2, triW xx Fq w w2 ∧ pwX so 120 0 [some (.ref xx), some (.int (zN k9)), some (.int (zN o9)), none] [] g w1 = some (.inl (some (.int (gnF Fq.2.1 k9 o9))), g, w2) := by
  have hI := hC.2.1.1
  obtain ⟨hC1, -⟩ := triW_c hC hz
  have hg1 := @hx_g xx _ _ hC1
  obtain ⟨xb, sb, Rb, hT, h⟩ := hz
  have a1 := @c_hasCome so g (xx + 19) xb sb Rb w Fq.2.1 k9 hI hT hk
  have a2 := @c_hasCome so g (xx + 19) xb sb Rb w Fq.2.1 o9 hI hT ho
  rw [← h] at a1 a2
  have i1 : pwIsC w1 (xx + 19) 4 = true := by rw [h]; exact mkT_i
  unfold gnF
  by_cases h1 : k9 ∈ tL Fq.2.1 0
  · rw [if_pos h1] at a1
    rw [if_pos (Or.inl h1)]
    refine ⟨w1, ⟨xb, sb, Rb, hT, h⟩, ?_⟩
    simp (disch := omega) only [s_X7_gainOnTrial_0, s_X7_gainOnTrial_1, s_X7_gainOnTrial_4, s_X7_gainOnTrial_5, s_X7_gainOnTrial_8, s_X7_gainOnTrial_11, s_X7_gainOnTrial_12, s_X7_gainOnTrial_15, s_X7_gainOnTrial_16, s_X7_gainOnTrial_19, s_X7_gainOnTrial_22, s_X7_gainOnTrial_23, s_X7_gainOnTrial_24, s_X7_gainOnTrial_25, s_X7_gainOnTrial_28, s_X7_gainOnTrial_29, s_X7_gainOnTrial_30, s_X7_gainOnTrial_33, s_X7_gainOnTrial_34, s_X7_gainOnTrial_35, s_X7_gainOnTrial_38, s_X7_gainOnTrial_39, s_X7_gainOnTrial_40, s_X7_gainOnTrial_43, s_X7_gainOnTrial_44, s_X7_gainOnTrial_45, zN_neg1, nL0, nL1, nL2, nL3, nL4, nL5, nL6, nL7, nL8, nL9, nL10, nL11, nL12, nL13, nL14, nL20, nL21, nL22, nL23, nL25, nL32, nL33, nL39, nL40, nL43, nL44, nL99, nL100, nL120, nL216, nL217, nL218, nL219, nL220, nL221, nL500, nL999, nL1000, nL10000, nL100000, sh33, zN_lt, zN_le, zN_eq, zN_ge0, zN_lt0, zN_nm, zN_mn, zN_mlt, zN_ltm, zN_lem, zN_mle, zN_m1, zN_m2, zN_addm, zN_ofNat, zN_beq, zN_add, zN_sub, zN_mul, zN_rem, qT_lt, qF_lt, qT_le, qF_le, qT_eq, qF_eq, ↓reduceIte, and_true, true_and, false_and, and_false, not_true_eq_false, not_false_eq_true, decide_true, decide_false, Bool.true_or, Bool.or_true, Bool.false_or, Bool.or_false, cond_true, cond_false, qAv, cond_true, Option.bind_some, List.getElem?_cons_succ, List.getElem?_cons_zero, hg1, i1, a1]
  · rw [if_neg h1] at a1
    by_cases h2 : o9 ∈ tL Fq.2.1 0
    · rw [if_pos h2] at a2
      rw [if_pos (Or.inr h2)]
      refine ⟨w1, ⟨xb, sb, Rb, hT, h⟩, ?_⟩
      simp (disch := omega) only [s_X7_gainOnTrial_0, s_X7_gainOnTrial_1, s_X7_gainOnTrial_4, s_X7_gainOnTrial_5, s_X7_gainOnTrial_8, s_X7_gainOnTrial_11, s_X7_gainOnTrial_12, s_X7_gainOnTrial_15, s_X7_gainOnTrial_16, s_X7_gainOnTrial_19, s_X7_gainOnTrial_22, s_X7_gainOnTrial_23, s_X7_gainOnTrial_24, s_X7_gainOnTrial_25, s_X7_gainOnTrial_28, s_X7_gainOnTrial_29, s_X7_gainOnTrial_30, s_X7_gainOnTrial_33, s_X7_gainOnTrial_34, s_X7_gainOnTrial_35, s_X7_gainOnTrial_38, s_X7_gainOnTrial_39, s_X7_gainOnTrial_40, s_X7_gainOnTrial_43, s_X7_gainOnTrial_44, s_X7_gainOnTrial_45, zN_neg1, nL0, nL1, nL2, nL3, nL4, nL5, nL6, nL7, nL8, nL9, nL10, nL11, nL12, nL13, nL14, nL20, nL21, nL22, nL23, nL25, nL32, nL33, nL39, nL40, nL43, nL44, nL99, nL100, nL120, nL216, nL217, nL218, nL219, nL220, nL221, nL500, nL999, nL1000, nL10000, nL100000, sh33, zN_lt, zN_le, zN_eq, zN_ge0, zN_lt0, zN_nm, zN_mn, zN_mlt, zN_ltm, zN_lem, zN_mle, zN_m1, zN_m2, zN_addm, zN_ofNat, zN_beq, zN_add, zN_sub, zN_mul, zN_rem, qT_lt, qF_lt, qT_le, qF_le, qT_eq, qF_eq, ↓reduceIte, and_true, true_and, false_and, and_false, not_true_eq_false, not_false_eq_true, decide_true, decide_false, Bool.true_or, Bool.or_true, Bool.false_or, Bool.or_false, cond_true, cond_false, qAv, cond_true, Option.bind_some, List.getElem?_cons_succ, List.getElem?_cons_zero, hg1, i1, a1, a2]
    · rw [if_neg h2] at a2
      rw [if_neg (fun hh => hh.elim h1 h2)]
      obtain ⟨R3, b1, b2⟩ := @c_swapW so g (xx + 19) xb sb Rb w Fq.2.1 k9 o9 hI hT hk ho
      obtain ⟨R4, b3, b4⟩ := @c_swapW so g (xx + 19) xb sb R3 w (tSwap Fq.2.1 k9 o9) k9 o9 (inv_Swap hI hk ho) b1 hk ho
      rw [sw_sw] at b3
      rw [← h] at b2
      have hg3 := @hx_g xx _ _ (@cls_trial xx w xb sb R3 Fq hC)
      refine ⟨mkT (xx + 19) xb sb R4 w, ⟨xb, sb, R4, b3, rfl⟩, ?_⟩
      simp (disch := omega) only [s_X7_gainOnTrial_0, s_X7_gainOnTrial_1, s_X7_gainOnTrial_4, s_X7_gainOnTrial_5, s_X7_gainOnTrial_8, s_X7_gainOnTrial_11, s_X7_gainOnTrial_12, s_X7_gainOnTrial_15, s_X7_gainOnTrial_16, s_X7_gainOnTrial_19, s_X7_gainOnTrial_22, s_X7_gainOnTrial_23, s_X7_gainOnTrial_24, s_X7_gainOnTrial_25, s_X7_gainOnTrial_28, s_X7_gainOnTrial_29, s_X7_gainOnTrial_30, s_X7_gainOnTrial_33, s_X7_gainOnTrial_34, s_X7_gainOnTrial_35, s_X7_gainOnTrial_38, s_X7_gainOnTrial_39, s_X7_gainOnTrial_40, s_X7_gainOnTrial_43, s_X7_gainOnTrial_44, s_X7_gainOnTrial_45, zN_neg1, nL0, nL1, nL2, nL3, nL4, nL5, nL6, nL7, nL8, nL9, nL10, nL11, nL12, nL13, nL14, nL20, nL21, nL22, nL23, nL25, nL32, nL33, nL39, nL40, nL43, nL44, nL99, nL100, nL120, nL216, nL217, nL218, nL219, nL220, nL221, nL500, nL999, nL1000, nL10000, nL100000, qT_lt, qF_lt, qT_le, qF_le, qT_eq, qF_eq, ↓reduceIte, and_true, true_and, false_and, and_false, not_true_eq_false, not_false_eq_true, decide_true, decide_false, Bool.true_or, Bool.or_true, Bool.false_or, Bool.or_false, cond_true, cond_false, qAv, cond_true, Option.bind_some, List.getElem?_cons_succ, List.getElem?_cons_zero, hg1, hg3, i1, mkT_i, a1, a2, b2, b4]
theorem x_bex59 (hC : clsW xx Fq w) {wq : Int32} (hk : k9 < tN Fq.2.1 1) : ∀ (dq oz : Nat) (w1 : pwW) (st : T3) (o7 : Option Value), oz + dq = tN Fq.2.1 1 → triW xx Fq w w1 → ∃ (w2 : pwW) (p6 p7 : Option Value), triW xx Fq w w2 ∧ pwX so 119 59 [some (.ref xx), some (.int wq), some (.int (st.1)), some (.int (st.2.1)), some (.int (st.2.2)), some (.int (zN k9)), some (.int (zN oz)), o7] [] g w1 = pwX so 119 41 [some (.ref xx), some (.int wq), some (.int ((bxI Fq.2.1 k9 dq oz st).1)), some (.int ((bxI Fq.2.1 k9 dq oz st).2.1)), some (.int ((bxI Fq.2.1 k9 dq oz st).2.2)), some (.int (zN (k9 + 1))), p6, p7] [] g w2 := by
  have hI := hC.2.1.1
  have h4 := hI.1
  intro dq
  induction dq with
  | zero =>
    intro oz w1 st o7 h1 hz
    have h1 : oz = tN Fq.2.1 1 := by omega
    subst h1
    obtain ⟨hC1, -⟩ := triW_c hC hz
    have hg1 := @hx_g xx _ _ hC1
    have hz2 := hz
    obtain ⟨xb, sb, Rb, hT, h⟩ := hz2
    have e1 : pwGet w1 (xx + 19) 4 1 = some (.int (zN (tN Fq.2.1 1))) := by rw [h, mkT_g, ← hT.1.1.2.2.1]; rfl
    refine ⟨w1, some (.int (zN (tN Fq.2.1 1))), o7, hz, ?_⟩
    simp (disch := omega) only [s_X7_bestExchange_59, s_X7_bestExchange_61, s_X7_bestExchange_62, s_X7_bestExchange_65, s_X7_bestExchange_68, s_X7_bestExchange_104, s_X7_bestExchange_107, zN_neg1, nL0, nL1, nL2, nL3, nL4, nL5, nL6, nL7, nL8, nL9, nL10, nL11, nL12, nL13, nL14, nL20, nL21, nL22, nL23, nL25, nL32, nL33, nL39, nL40, nL43, nL44, nL99, nL100, nL120, nL216, nL217, nL218, nL219, nL220, nL221, nL500, nL999, nL1000, nL10000, nL100000, sh33, zN_lt, zN_le, zN_eq, zN_ge0, zN_lt0, zN_nm, zN_mn, zN_mlt, zN_ltm, zN_lem, zN_mle, zN_m1, zN_m2, zN_addm, zN_ofNat, zN_beq, zN_add, zN_sub, zN_mul, zN_rem, qT_lt, qF_lt, qT_le, qF_le, qT_eq, qF_eq, ↓reduceIte, and_true, true_and, false_and, and_false, not_true_eq_false, not_false_eq_true, decide_true, decide_false, Bool.true_or, Bool.or_true, Bool.false_or, Bool.or_false, cond_true, cond_false, Option.bind_some, List.getElem?_cons_succ, List.getElem?_cons_zero, hg1, e1, bxI]
  | succ dq ih =>
    intro oz w1 st o7 h1 hz
    obtain ⟨hC1, -⟩ := triW_c hC hz
    have hg1 := @hx_g xx _ _ hC1
    have hz2 := hz
    obtain ⟨xb, sb, Rb, hT, h⟩ := hz2
    have e1 : pwGet w1 (xx + 19) 4 1 = some (.int (zN (tN Fq.2.1 1))) := by rw [h, mkT_g, ← hT.1.1.2.2.1]; rfl
    have i6 : pwIsC w1 xx 6 = true := ci_ hC1.1
    obtain ⟨w2, a1, a2⟩ := @m_gain so g xx w w1 Fq k9 oz hC hz hk (by omega)
    obtain ⟨w3, p6, p7, b1, b2⟩ := ih (oz + 1) w2 (bxS Fq.2.1 k9 oz st) (some (.int (gnF Fq.2.1 k9 oz))) (by omega) a1
    refine ⟨w3, p6, p7, b1, ?_⟩
    rw [show bxI Fq.2.1 k9 (dq + 1) oz st = bxI Fq.2.1 k9 dq (oz + 1) (bxS Fq.2.1 k9 oz st) from rfl, ← b2, s_X7_bestExchange_59]
    by_cases h6 : st.2.2 < gnF Fq.2.1 k9 oz
    · have h7 := Int32.not_le.mpr h6
      rw [show bxS Fq.2.1 k9 oz st = (zN k9, zN oz, gnF Fq.2.1 k9 oz) from if_pos h6]
      simp (disch := omega) only [s_X7_bestExchange_61, s_X7_bestExchange_62, s_X7_bestExchange_65, s_X7_bestExchange_68, s_X7_bestExchange_71, s_X7_bestExchange_72, s_X7_bestExchange_74, s_X7_bestExchange_76, s_X7_bestExchange_79, s_X7_bestExchange_81, s_X7_bestExchange_83, s_X7_bestExchange_85, s_X7_bestExchange_88, s_X7_bestExchange_90, s_X7_bestExchange_92, s_X7_bestExchange_94, s_X7_bestExchange_95, s_X7_bestExchange_97, s_X7_bestExchange_98, s_X7_bestExchange_101, zN_neg1, nL0, nL1, nL2, nL3, nL4, nL5, nL6, nL7, nL8, nL9, nL10, nL11, nL12, nL13, nL14, nL20, nL21, nL22, nL23, nL25, nL32, nL33, nL39, nL40, nL43, nL44, nL99, nL100, nL120, nL216, nL217, nL218, nL219, nL220, nL221, nL500, nL999, nL1000, nL10000, nL100000, sh33, zN_lt, zN_le, zN_eq, zN_ge0, zN_lt0, zN_nm, zN_mn, zN_mlt, zN_ltm, zN_lem, zN_mle, zN_m1, zN_m2, zN_addm, zN_ofNat, zN_beq, zN_add, zN_sub, zN_mul, zN_rem, qT_lt, qF_lt, qT_le, qF_le, qT_eq, qF_eq, ↓reduceIte, and_true, true_and, false_and, and_false, not_true_eq_false, not_false_eq_true, decide_true, decide_false, Bool.true_or, Bool.or_true, Bool.false_or, Bool.or_false, cond_true, cond_false, qAv, cond_true, Option.bind_some, List.getElem?_cons_succ, List.getElem?_cons_zero, hg1, e1, i6, a2, h7]
    · have h7 := Int32.not_lt.mp h6
      rw [show bxS Fq.2.1 k9 oz st = st from if_neg h6]
      simp (disch := omega) only [s_X7_bestExchange_61, s_X7_bestExchange_62, s_X7_bestExchange_65, s_X7_bestExchange_68, s_X7_bestExchange_71, s_X7_bestExchange_72, s_X7_bestExchange_74, s_X7_bestExchange_76, s_X7_bestExchange_79, s_X7_bestExchange_81, s_X7_bestExchange_83, s_X7_bestExchange_85, s_X7_bestExchange_88, s_X7_bestExchange_90, s_X7_bestExchange_92, s_X7_bestExchange_94, s_X7_bestExchange_95, s_X7_bestExchange_97, s_X7_bestExchange_98, s_X7_bestExchange_101, zN_neg1, nL0, nL1, nL2, nL3, nL4, nL5, nL6, nL7, nL8, nL9, nL10, nL11, nL12, nL13, nL14, nL20, nL21, nL22, nL23, nL25, nL32, nL33, nL39, nL40, nL43, nL44, nL99, nL100, nL120, nL216, nL217, nL218, nL219, nL220, nL221, nL500, nL999, nL1000, nL10000, nL100000, sh33, zN_lt, zN_le, zN_eq, zN_ge0, zN_lt0, zN_nm, zN_mn, zN_mlt, zN_ltm, zN_lem, zN_mle, zN_m1, zN_m2, zN_addm, zN_ofNat, zN_beq, zN_add, zN_sub, zN_mul, zN_rem, qT_lt, qF_lt, qT_le, qF_le, qT_eq, qF_eq, ↓reduceIte, and_true, true_and, false_and, and_false, not_true_eq_false, not_false_eq_true, decide_true, decide_false, Bool.true_or, Bool.or_true, Bool.false_or, Bool.or_false, cond_true, cond_false, qAv, cond_true, Option.bind_some, List.getElem?_cons_succ, List.getElem?_cons_zero, hg1, e1, i6, a2, h7]
theorem x_bex41 (hC : clsW xx Fq w) {wz : Nat} (hw : wz ≤ 2) : ∀ (dq kz : Nat) (w1 : pwW) (st : T3) (o6 o7 : Option Value), kz + dq = tN Fq.2.1 1 → triW xx Fq w w1 → ∃ (w2 : pwW), triW xx Fq w w2 ∧ pwX so 119 41 [some (.ref xx), some (.int (zN wz)), some (.int (st.1)), some (.int (st.2.1)), some (.int (st.2.2)), some (.int (zN kz)), o6, o7] [] g w1 = some (.inl (some (.int (if wz = 0 then (bxO Fq.2.1 dq kz st).1 else if wz = 1 then (bxO Fq.2.1 dq kz st).2.1 else (bxO Fq.2.1 dq kz st).2.2))), g, w2) := by
  have hI := hC.2.1.1
  have h4 := hI.1
  intro dq
  induction dq with
  | zero =>
    intro kz w1 st o6 o7 h1 hz
    have h1 : kz = tN Fq.2.1 1 := by omega
    subst h1
    obtain ⟨hC1, -⟩ := triW_c hC hz
    have hg1 := @hx_g xx _ _ hC1
    have hz2 := hz
    obtain ⟨xb, sb, Rb, hT, h⟩ := hz2
    have e1 : pwGet w1 (xx + 19) 4 1 = some (.int (zN (tN Fq.2.1 1))) := by rw [h, mkT_g, ← hT.1.1.2.2.1]; rfl
    refine ⟨w1, hz, ?_⟩
    have hc : wz = 0 ∨ wz = 1 ∨ wz = 2 := by omega
    rcases hc with rfl | rfl | rfl
    · simp (disch := omega) only [s_X7_bestExchange_0, s_X7_bestExchange_1, s_X7_bestExchange_4, s_X7_bestExchange_5, s_X7_bestExchange_6, s_X7_bestExchange_9, s_X7_bestExchange_20, s_X7_bestExchange_21, s_X7_bestExchange_22, s_X7_bestExchange_23, s_X7_bestExchange_24, s_X7_bestExchange_25, s_X7_bestExchange_27, s_X7_bestExchange_28, s_X7_bestExchange_31, s_X7_bestExchange_32, s_X7_bestExchange_35, s_X7_bestExchange_38, s_X7_bestExchange_39, s_X7_bestExchange_41, s_X7_bestExchange_43, s_X7_bestExchange_44, s_X7_bestExchange_47, s_X7_bestExchange_50, s_X7_bestExchange_53, s_X7_bestExchange_55, s_X7_bestExchange_56, s_X7_bestExchange_57, s_X7_bestExchange_61, s_X7_bestExchange_62, s_X7_bestExchange_65, s_X7_bestExchange_68, s_X7_bestExchange_71, s_X7_bestExchange_72, s_X7_bestExchange_74, s_X7_bestExchange_76, s_X7_bestExchange_79, s_X7_bestExchange_81, s_X7_bestExchange_83, s_X7_bestExchange_85, s_X7_bestExchange_88, s_X7_bestExchange_90, s_X7_bestExchange_92, s_X7_bestExchange_94, s_X7_bestExchange_95, s_X7_bestExchange_97, s_X7_bestExchange_98, s_X7_bestExchange_101, s_X7_bestExchange_104, s_X7_bestExchange_107, s_X7_bestExchange_110, s_X7_bestExchange_111, s_X7_bestExchange_114, s_X7_bestExchange_115, s_X7_bestExchange_118, s_X7_bestExchange_119, s_X7_bestExchange_120, s_X7_bestExchange_123, s_X7_bestExchange_124, s_X7_bestExchange_127, s_X7_bestExchange_129, zN_neg1, nL0, nL1, nL2, nL3, nL4, nL5, nL6, nL7, nL8, nL9, nL10, nL11, nL12, nL13, nL14, nL20, nL21, nL22, nL23, nL25, nL32, nL33, nL39, nL40, nL43, nL44, nL99, nL100, nL120, nL216, nL217, nL218, nL219, nL220, nL221, nL500, nL999, nL1000, nL10000, nL100000, sh33, zN_lt, zN_le, zN_eq, zN_ge0, zN_lt0, zN_nm, zN_mn, zN_mlt, zN_ltm, zN_lem, zN_mle, zN_m1, zN_m2, zN_addm, zN_ofNat, zN_beq, zN_add, zN_sub, zN_mul, zN_rem, qT_lt, qF_lt, qT_le, qF_le, qT_eq, qF_eq, ↓reduceIte, and_true, true_and, false_and, and_false, not_true_eq_false, not_false_eq_true, decide_true, decide_false, Bool.true_or, Bool.or_true, Bool.false_or, Bool.or_false, cond_true, cond_false, Option.bind_some, List.getElem?_cons_succ, List.getElem?_cons_zero, hg1, e1, bxO]
    · simp (disch := omega) only [s_X7_bestExchange_0, s_X7_bestExchange_1, s_X7_bestExchange_4, s_X7_bestExchange_5, s_X7_bestExchange_6, s_X7_bestExchange_9, s_X7_bestExchange_20, s_X7_bestExchange_21, s_X7_bestExchange_22, s_X7_bestExchange_23, s_X7_bestExchange_24, s_X7_bestExchange_25, s_X7_bestExchange_27, s_X7_bestExchange_28, s_X7_bestExchange_31, s_X7_bestExchange_32, s_X7_bestExchange_35, s_X7_bestExchange_38, s_X7_bestExchange_39, s_X7_bestExchange_41, s_X7_bestExchange_43, s_X7_bestExchange_44, s_X7_bestExchange_47, s_X7_bestExchange_50, s_X7_bestExchange_53, s_X7_bestExchange_55, s_X7_bestExchange_56, s_X7_bestExchange_57, s_X7_bestExchange_61, s_X7_bestExchange_62, s_X7_bestExchange_65, s_X7_bestExchange_68, s_X7_bestExchange_71, s_X7_bestExchange_72, s_X7_bestExchange_74, s_X7_bestExchange_76, s_X7_bestExchange_79, s_X7_bestExchange_81, s_X7_bestExchange_83, s_X7_bestExchange_85, s_X7_bestExchange_88, s_X7_bestExchange_90, s_X7_bestExchange_92, s_X7_bestExchange_94, s_X7_bestExchange_95, s_X7_bestExchange_97, s_X7_bestExchange_98, s_X7_bestExchange_101, s_X7_bestExchange_104, s_X7_bestExchange_107, s_X7_bestExchange_110, s_X7_bestExchange_111, s_X7_bestExchange_114, s_X7_bestExchange_115, s_X7_bestExchange_118, s_X7_bestExchange_119, s_X7_bestExchange_120, s_X7_bestExchange_123, s_X7_bestExchange_124, s_X7_bestExchange_127, s_X7_bestExchange_129, zN_neg1, nL0, nL1, nL2, nL3, nL4, nL5, nL6, nL7, nL8, nL9, nL10, nL11, nL12, nL13, nL14, nL20, nL21, nL22, nL23, nL25, nL32, nL33, nL39, nL40, nL43, nL44, nL99, nL100, nL120, nL216, nL217, nL218, nL219, nL220, nL221, nL500, nL999, nL1000, nL10000, nL100000, sh33, zN_lt, zN_le, zN_eq, zN_ge0, zN_lt0, zN_nm, zN_mn, zN_mlt, zN_ltm, zN_lem, zN_mle, zN_m1, zN_m2, zN_addm, zN_ofNat, zN_beq, zN_add, zN_sub, zN_mul, zN_rem, qT_lt, qF_lt, qT_le, qF_le, qT_eq, qF_eq, ↓reduceIte, and_true, true_and, false_and, and_false, not_true_eq_false, not_false_eq_true, decide_true, decide_false, Bool.true_or, Bool.or_true, Bool.false_or, Bool.or_false, cond_true, cond_false, Option.bind_some, List.getElem?_cons_succ, List.getElem?_cons_zero, hg1, e1, bxO]
    · simp (disch := omega) only [s_X7_bestExchange_0, s_X7_bestExchange_1, s_X7_bestExchange_4, s_X7_bestExchange_5, s_X7_bestExchange_6, s_X7_bestExchange_9, s_X7_bestExchange_20, s_X7_bestExchange_21, s_X7_bestExchange_22, s_X7_bestExchange_23, s_X7_bestExchange_24, s_X7_bestExchange_25, s_X7_bestExchange_27, s_X7_bestExchange_28, s_X7_bestExchange_31, s_X7_bestExchange_32, s_X7_bestExchange_35, s_X7_bestExchange_38, s_X7_bestExchange_39, s_X7_bestExchange_41, s_X7_bestExchange_43, s_X7_bestExchange_44, s_X7_bestExchange_47, s_X7_bestExchange_50, s_X7_bestExchange_53, s_X7_bestExchange_55, s_X7_bestExchange_56, s_X7_bestExchange_57, s_X7_bestExchange_61, s_X7_bestExchange_62, s_X7_bestExchange_65, s_X7_bestExchange_68, s_X7_bestExchange_71, s_X7_bestExchange_72, s_X7_bestExchange_74, s_X7_bestExchange_76, s_X7_bestExchange_79, s_X7_bestExchange_81, s_X7_bestExchange_83, s_X7_bestExchange_85, s_X7_bestExchange_88, s_X7_bestExchange_90, s_X7_bestExchange_92, s_X7_bestExchange_94, s_X7_bestExchange_95, s_X7_bestExchange_97, s_X7_bestExchange_98, s_X7_bestExchange_101, s_X7_bestExchange_104, s_X7_bestExchange_107, s_X7_bestExchange_110, s_X7_bestExchange_111, s_X7_bestExchange_114, s_X7_bestExchange_115, s_X7_bestExchange_118, s_X7_bestExchange_119, s_X7_bestExchange_120, s_X7_bestExchange_123, s_X7_bestExchange_124, s_X7_bestExchange_127, s_X7_bestExchange_129, zN_neg1, nL0, nL1, nL2, nL3, nL4, nL5, nL6, nL7, nL8, nL9, nL10, nL11, nL12, nL13, nL14, nL20, nL21, nL22, nL23, nL25, nL32, nL33, nL39, nL40, nL43, nL44, nL99, nL100, nL120, nL216, nL217, nL218, nL219, nL220, nL221, nL500, nL999, nL1000, nL10000, nL100000, sh33, zN_lt, zN_le, zN_eq, zN_ge0, zN_lt0, zN_nm, zN_mn, zN_mlt, zN_ltm, zN_lem, zN_mle, zN_m1, zN_m2, zN_addm, zN_ofNat, zN_beq, zN_add, zN_sub, zN_mul, zN_rem, qT_lt, qF_lt, qT_le, qF_le, qT_eq, qF_eq, ↓reduceIte, and_true, true_and, false_and, and_false, not_true_eq_false, not_false_eq_true, decide_true, decide_false, Bool.true_or, Bool.or_true, Bool.false_or, Bool.or_false, cond_true, cond_false, Option.bind_some, List.getElem?_cons_succ, List.getElem?_cons_zero, hg1, e1, bxO]
  | succ dq ih =>
    intro kz w1 st o6 o7 h1 hz
    obtain ⟨hC1, -⟩ := triW_c hC hz
    have hg1 := @hx_g xx _ _ hC1
    have hz2 := hz
    obtain ⟨xb, sb, Rb, hT, h⟩ := hz2
    have e1 : pwGet w1 (xx + 19) 4 1 = some (.int (zN (tN Fq.2.1 1))) := by rw [h, mkT_g, ← hT.1.1.2.2.1]; rfl
    obtain ⟨w2, p6, p7, a1, a2⟩ := @x_bex59 so g xx w Fq kz hC (zN wz) (by omega) dq (kz + 1) w1 st o7 (by omega) hz
    obtain ⟨w3, b1, b2⟩ := ih (kz + 1) w2 (bxI Fq.2.1 kz dq (kz + 1) st) p6 p7 (by omega) a1
    refine ⟨w3, b1, ?_⟩
    rw [show bxO Fq.2.1 (dq + 1) kz st = bxO Fq.2.1 dq (kz + 1) (bxI Fq.2.1 kz dq (kz + 1) st) from rfl, ← b2, ← a2, s_X7_bestExchange_41]
    simp (disch := omega) only [s_X7_bestExchange_43, s_X7_bestExchange_44, s_X7_bestExchange_47, s_X7_bestExchange_50, s_X7_bestExchange_53, s_X7_bestExchange_55, s_X7_bestExchange_56, s_X7_bestExchange_57, zN_neg1, nL0, nL1, nL2, nL3, nL4, nL5, nL6, nL7, nL8, nL9, nL10, nL11, nL12, nL13, nL14, nL20, nL21, nL22, nL23, nL25, nL32, nL33, nL39, nL40, nL43, nL44, nL99, nL100, nL120, nL216, nL217, nL218, nL219, nL220, nL221, nL500, nL999, nL1000, nL10000, nL100000, sh33, zN_lt, zN_le, zN_eq, zN_ge0, zN_lt0, zN_nm, zN_mn, zN_mlt, zN_ltm, zN_lem, zN_mle, zN_m1, zN_m2, zN_addm, zN_ofNat, zN_beq, zN_add, zN_sub, zN_mul, zN_rem, qT_lt, qF_lt, qT_le, qF_le, qT_eq, qF_eq, ↓reduceIte, and_true, true_and, false_and, and_false, not_true_eq_false, not_false_eq_true, decide_true, decide_false, Bool.true_or, Bool.or_true, Bool.false_or, Bool.or_false, cond_true, cond_false, Option.bind_some, List.getElem?_cons_succ, List.getElem?_cons_zero, hg1, e1]
theorem x_bestExch (hC : clsW xx Fq w) : ∃ w1, clsW xx Fq w1 ∧ frm xx w w1 ∧ pwX so 119 0 [some (.ref xx), some (.int pq), none, none, none, none, none, none] [] g w = some (oC (fun _ => 0) (fBest Fq pq) g w1) := by
  have hg := @hx_g xx w Fq hC
  unfold fBest
  by_cases h1 : 0 ≤ pq.toInt ∧ pq.toInt ≤ 2
  · rw [if_pos h1]
    obtain ⟨p9, rfl, e7, e8, e9⟩ := un_ex h1.1
    rw [e9]
    obtain ⟨xb, sb, Rb, hI, a1, i1, a2⟩ := @tri_ so g xx w Fq hC
    obtain ⟨w2, b1, b2⟩ := @x_bex41 so g xx w Fq hC p9 (by omega) (tN Fq.2.1 1) 0 (mkT (xx + 19) xb sb Rb w) (zM, zM, zN 0) none none (by omega) ⟨xb, sb, Rb, a1, rfl⟩
    obtain ⟨c1, c2⟩ := triW_c hC b1
    refine ⟨w2, c1, c2, ?_⟩
    rw [oC_0, ← b2]
    simp (disch := omega) only [s_X7_bestExchange_0, s_X7_bestExchange_1, s_X7_bestExchange_4, s_X7_bestExchange_5, s_X7_bestExchange_6, s_X7_bestExchange_9, s_X7_bestExchange_20, s_X7_bestExchange_21, s_X7_bestExchange_22, s_X7_bestExchange_23, s_X7_bestExchange_24, s_X7_bestExchange_25, s_X7_bestExchange_27, s_X7_bestExchange_28, s_X7_bestExchange_31, s_X7_bestExchange_32, s_X7_bestExchange_35, s_X7_bestExchange_38, s_X7_bestExchange_39, zN_neg1, nL0, nL1, nL2, nL3, nL4, nL5, nL6, nL7, nL8, nL9, nL10, nL11, nL12, nL13, nL14, nL20, nL21, nL22, nL23, nL25, nL32, nL33, nL39, nL40, nL43, nL44, nL99, nL100, nL120, nL216, nL217, nL218, nL219, nL220, nL221, nL500, nL999, nL1000, nL10000, nL100000, qLtI, qLeI, qEqI, zN_toInt, qM1I, iT_lt, iF_lt, iT_le, iF_le, iT_eq, iF_eq, ↓reduceIte, and_true, true_and, false_and, and_false, not_true_eq_false, not_false_eq_true, qAv, qAn, cond_true, cond_false, Option.bind_some, List.getElem?_cons_succ, List.getElem?_cons_zero, hg, i1, a2]
  · rw [if_neg h1]
    refine ⟨w, hC, frm_s, ?_⟩
    show _ = some (oC _ (0 + 1, 0) g w)
    rw [oC_s]
    by_cases h2 : 0 ≤ pq.toInt
    · simp (disch := omega) only [s_X7_bestExchange_0, s_X7_bestExchange_1, s_X7_bestExchange_4, s_X7_bestExchange_5, s_X7_bestExchange_6, s_X7_bestExchange_9, zN_neg1, nL0, nL1, nL2, nL3, nL4, nL5, nL6, nL7, nL8, nL9, nL10, nL11, nL12, nL13, nL14, nL20, nL21, nL22, nL23, nL25, nL32, nL33, nL39, nL40, nL43, nL44, nL99, nL100, nL120, nL216, nL217, nL218, nL219, nL220, nL221, nL500, nL999, nL1000, nL10000, nL100000, qLtI, qLeI, qEqI, zN_toInt, qM1I, iT_lt, iF_lt, iT_le, iF_le, iT_eq, iF_eq, ↓reduceIte, and_true, true_and, false_and, and_false, not_true_eq_false, not_false_eq_true, qAv, qAn, cond_true, cond_false, Option.bind_some, List.getElem?_cons_succ, List.getElem?_cons_zero]; rfl
    · simp (disch := omega) only [s_X7_bestExchange_0, s_X7_bestExchange_1, s_X7_bestExchange_4, s_X7_bestExchange_5, s_X7_bestExchange_6, s_X7_bestExchange_9, zN_neg1, nL0, nL1, nL2, nL3, nL4, nL5, nL6, nL7, nL8, nL9, nL10, nL11, nL12, nL13, nL14, nL20, nL21, nL22, nL23, nL25, nL32, nL33, nL39, nL40, nL43, nL44, nL99, nL100, nL120, nL216, nL217, nL218, nL219, nL220, nL221, nL500, nL999, nL1000, nL10000, nL100000, qLtI, qLeI, qEqI, zN_toInt, qM1I, iT_lt, iF_lt, iT_le, iF_le, iT_eq, iF_eq, ↓reduceIte, and_true, true_and, false_and, and_false, not_true_eq_false, not_false_eq_true, qAv, qAn, cond_true, cond_false, Option.bind_some, List.getElem?_cons_succ, List.getElem?_cons_zero]; rfl
end QA

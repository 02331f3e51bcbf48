/-! the pure part: tick(), goTicks(), goIn() of the model -/
def tTicks : Nat → TA → TA
  | 0, Aq => Aq
  | nq + 1, Aq => tTicks nq (tTick Aq)
def tIn : Nat → Nat → TA → Int32
  | 0, _, _ => zM
  | dq + 1, nq, Aq => if (tL Aq 0).length = tN Aq 1 then zN nq else tIn dq (nq + 1) (tTick Aq)
theorem inv_Ticks : ∀ nq (Aq : TA), invT Aq → invT (tTicks nq Aq)
  | 0, _, h => h
  | nq + 1, _, h => inv_Ticks nq _ (inv_Tick h)
theorem tTicks_N : ∀ nq (Aq : TA), invT Aq → tN (tTicks nq Aq) = tN Aq
  | 0, _, _ => rfl
  | nq + 1, _, h => (tTicks_N nq _ (inv_Tick h)).trans (tTick_N h)
section QA
variable {so : Nat → Nat} {g : pwG} {w : pwW} {aq nq sq Sq : Nat} {fq hq : Nat → Int32} {pq rq tq uq : Int32} {Aq Bq : TA} {xq : Int64}
theorem repM_time (hI : invT Aq) (hM : repM Aq fq) : repM (tTime Aq) (upd fq 218 (fq 218 + zN 1)) := by
  obtain ⟨⟨m0, m43, m216, m217, m218, m219, m220⟩, mk, ⟨m21, mst⟩, ⟨m32, mco⟩, ms⟩ := hM
  have hcl := come_len hI
  have hst := len_split hI (Nat.zero_le _)
  have hst2 : (fDn Aq 0).length = (tL Aq 1).length := by unfold fDn; rw [List.length_map]
  have hmn := hI.1
  have hev : ∀ jq, jq ≠ 218 → upd fq 218 (fq 218 + zN 1) jq = fq jq := fun jq hj => qU_n hj
  refine ⟨⟨?_, ?_, ?_, ?_, ?_, ?_, ?_⟩, fun k9 hk => ?_, ⟨?_, lsM_eq mst fun jq hj => hev _ (by have hj : jq < (tL Aq 1).length := hj; omega)⟩, ⟨?_, lsM_eq mco fun jq hj => hev _ (by have hj : jq < (tL Aq 0).length := hj; omega)⟩, fun s2 hs2 => ?_⟩
  · rw [hev _ (by decide)]; exact m0
  · rw [hev _ (by decide)]; exact m43
  · rw [hev _ (by decide)]; exact m216
  · rw [hev _ (by decide)]; exact m217
  · rw [qU_s, m218]; rfl
  · rw [hev _ (by decide)]; exact m219
  · rw [hev _ (by decide)]; exact m220
  · have hk : k9 < tN Aq 1 := hk
    rw [hev _ (by omega), hev _ (by omega)]; exact mk k9 hk
  · rw [hev _ (by decide)]; exact m21
  · rw [hev _ (by decide)]; exact m32
  · have hs2 : s2 < tN Aq 0 := hs2
    obtain ⟨⟨⟨j1, j2⟩, ⟨j3, j4⟩, j5, j6, j7, j8⟩, j9, j10, j11⟩ := hI.2.2 s2 hs2
    have hrd2 := (rd_le hI hs2).1
    exact repMs_eq (Bq := tTime Aq) (ms s2 hs2) rfl rfl rfl (by omega) (by omega) (fun jq hj => hev _ (by omega)) (fun cq hc => by rw [hev _ (by omega)]; exact (ms s2 hs2).2.2.2 cq hc)
theorem n_street (hI : invT Aq) (hM : repM Aq fq) (hs : sq < tN Aq 0) : ∃ f1, repM (tStreet Aq sq) f1 ∧ pwX so 161 16 [some (.ref aq), some (.int (zN sq))] [] g (mkA aq 221 fq w) = pwX so 161 16 [some (.ref aq), some (.int (zN sq + zM))] [] g (mkA aq 221 f1 w) := by
  have h4 := hI.1
  have a1 := @n_leave so g w aq sq fq Aq hI hM hs
  have a2 : repM (tLeave Aq sq) (if goL Aq sq then mLv Aq sq fq else fq) := by
    unfold tLeave
    by_cases hg : goL Aq sq
    · rw [if_pos hg, if_pos hg]; exact m_mLv hI hM hs hg
    · rw [if_neg hg, if_neg hg]; exact hM
  have i1 := inv_Leave hI hs
  have hs1 : sq < tN (tLeave Aq sq) 0 := by rw [tLeave_N]; exact hs
  obtain ⟨f2, b1, b2⟩ := @n_walk so g w aq sq _ (tLeave Aq sq) i1 a2 hs1
  have i2 := inv_Join i1 hs1
  have hs2 : sq < tN (tJoin (tLeave Aq sq) sq) 0 := by rw [tJoin_N]; exact hs1
  have i3 := inv_Mv i2 hs2
  have hmix : f2 217 = zN (tN Aq 3) := by
    rw [b1.1.2.2.2.1, tMv_N, tJoin_N, tLeave_N]
  by_cases hh : tN Aq 3 = 1
  · obtain ⟨f3, c1, c2⟩ := @n_pass so g w aq sq f2 (tMv (tJoin (tLeave Aq sq) sq) sq) i3 b1 hs2
    rw [hh] at hmix
    refine ⟨f3, ?_, ?_⟩
    · unfold tStreet tMx
      rw [if_pos (by rw [tMv_N, tJoin_N, tLeave_N]; exact hh)]
      exact c1
    · simp (disch := omega) only [s_X8_tick_16, s_X8_tick_17, s_X8_tick_20, s_X8_tick_21, s_X8_tick_22, s_X8_tick_25, s_X8_tick_26, s_X8_tick_27, s_X8_tick_30, s_X8_tick_31, s_X8_tick_34, s_X8_tick_35, s_X8_tick_36, s_X8_tick_39, s_X8_tick_40, s_X8_tick_41, s_X8_tick_44, s_X8_tick_47, s_X8_tick_50, s_X8_tick_51, zN_neg1, nL0, nL1, nL2, nL3, nL4, nL5, nL6, nL7, nL8, nL9, nL10, nL11, nL12, nL13, nL14, nL20, nL21, nL22, nL23, nL25, nL32, nL33, nL39, nL40, nL43, nL44, nL99, nL100, nL120, nL216, nL217, nL218, nL219, nL220, nL221, nL500, nL999, nL1000, nL10000, nL100000, qT_lt, qF_lt, qT_le, qF_le, qT_eq, qF_eq, ↓reduceIte, and_true, true_and, false_and, and_false, not_true_eq_false, not_false_eq_true, decide_true, decide_false, Bool.true_or, Bool.or_true, Bool.false_or, Bool.or_false, cond_true, cond_false, zN_lt0, ↓md_ld, qAn, a1, b2, c2, hmix]
  · refine ⟨f2, ?_, ?_⟩
    · unfold tStreet tMx
      rw [if_neg (by rw [tMv_N, tJoin_N, tLeave_N]; exact hh)]
      exact b1
    · have h6 : tN Aq 3 < 1 ∨ 1 < tN Aq 3 := by omega
      simp (disch := omega) only [s_X8_tick_16, s_X8_tick_17, s_X8_tick_20, s_X8_tick_21, s_X8_tick_22, s_X8_tick_25, s_X8_tick_26, s_X8_tick_27, s_X8_tick_30, s_X8_tick_31, s_X8_tick_34, s_X8_tick_35, s_X8_tick_36, s_X8_tick_39, s_X8_tick_40, s_X8_tick_41, s_X8_tick_44, s_X8_tick_47, s_X8_tick_50, s_X8_tick_51, zN_neg1, nL0, nL1, nL2, nL3, nL4, nL5, nL6, nL7, nL8, nL9, nL10, nL11, nL12, nL13, nL14, nL20, nL21, nL22, nL23, nL25, nL32, nL33, nL39, nL40, nL43, nL44, nL99, nL100, nL120, nL216, nL217, nL218, nL219, nL220, nL221, nL500, nL999, nL1000, nL10000, nL100000, qT_lt, qF_lt, qT_le, qF_le, qT_eq, qF_eq, ↓reduceIte, and_true, true_and, false_and, and_false, not_true_eq_false, not_false_eq_true, decide_true, decide_false, Bool.true_or, Bool.or_true, Bool.false_or, Bool.or_false, cond_true, cond_false, zN_lt0, zN_eq, ↓md_ld, qAn, a1, b2, hmix]
theorem n_down : ∀ jq (Aq : TA) (fq : Nat → Int32), jq ≤ tN Aq 0 → invT Aq → repM Aq fq → ∃ f1, repM (tDown jq Aq) f1 ∧ pwX so 161 16 [some (.ref aq), some (.int (zN jq + zM))] [] g (mkA aq 221 fq w) = pwX so 161 16 [some (.ref aq), some (.int zM)] [] g (mkA aq 221 f1 w) := by
  intro jq
  induction jq with
  | zero =>
    intro Aq fq _ _ hM
    refine ⟨fq, hM, ?_⟩
    rw [show zN 0 + zM = zM by decide]
  | succ jq ih =>
    intro Aq fq hj hI hM
    obtain ⟨f1, a1, a2⟩ := @n_street so g w aq jq fq Aq hI hM (by omega)
    obtain ⟨f2, b1, b2⟩ := ih (tStreet Aq jq) f1 (by rw [tStreet_N]; omega) (inv_Street hI (by omega)) a1
    refine ⟨f2, b1, ?_⟩
    rw [zN_addm (by omega), Nat.add_sub_cancel, a2, b2]
theorem n_tick (hI : invT Aq) (hM : repM Aq fq) : ∃ f1, repM (tTick Aq) f1 ∧ pwX so 161 0 [some (.ref aq), none] [] g (mkA aq 221 fq w) = some (.inl none, g, (mkA aq 221 f1 w)) := by
  have hI1 := inv_Time hI
  have hM1 := repM_time hI hM
  obtain ⟨f1, b1, b2⟩ := @n_down so g w aq (tN Aq 0) (tTime Aq) _ (Nat.le_refl _) hI1 hM1
  obtain ⟨f2, c1, c2⟩ := @n_setOut so g w aq f1 (tDown (tN Aq 0) (tTime Aq)) (inv_Down (tN Aq 0) (tTime Aq) (Nat.le_refl _) hI1).1 b1
  refine ⟨f2, c1, ?_⟩
  have m43 := hM.1.2.1
  simp (disch := omega) only [s_X8_tick_0, s_X8_tick_1, s_X8_tick_4, s_X8_tick_5, s_X8_tick_6, s_X8_tick_7, s_X8_tick_8, s_X8_tick_9, s_X8_tick_10, s_X8_tick_12, s_X8_tick_13, s_X8_tick_14, s_X8_tick_15, s_X8_tick_17, s_X8_tick_20, s_X8_tick_21, s_X8_tick_22, s_X8_tick_25, s_X8_tick_26, s_X8_tick_27, s_X8_tick_30, s_X8_tick_31, s_X8_tick_34, s_X8_tick_35, s_X8_tick_36, s_X8_tick_39, s_X8_tick_40, s_X8_tick_41, s_X8_tick_44, s_X8_tick_47, s_X8_tick_50, s_X8_tick_51, s_X8_tick_54, zN_neg1, nL0, nL1, nL2, nL3, nL4, nL5, nL6, nL7, nL8, nL9, nL10, nL11, nL12, nL13, nL14, nL20, nL21, nL22, nL23, nL25, nL32, nL33, nL39, nL40, nL43, nL44, nL99, nL100, nL120, nL216, nL217, nL218, nL219, nL220, nL221, nL500, nL999, nL1000, nL10000, nL100000, ↓md_ld, ↓md_st, qU_n, m43, zN_subm, b2]
  rw [s_X8_tick_16]
  simp (disch := omega) only [s_X8_tick_0, s_X8_tick_1, s_X8_tick_4, s_X8_tick_5, s_X8_tick_6, s_X8_tick_7, s_X8_tick_8, s_X8_tick_9, s_X8_tick_10, s_X8_tick_12, s_X8_tick_13, s_X8_tick_14, s_X8_tick_15, s_X8_tick_17, s_X8_tick_20, s_X8_tick_21, s_X8_tick_22, s_X8_tick_25, s_X8_tick_26, s_X8_tick_27, s_X8_tick_30, s_X8_tick_31, s_X8_tick_34, s_X8_tick_35, s_X8_tick_36, s_X8_tick_39, s_X8_tick_40, s_X8_tick_41, s_X8_tick_44, s_X8_tick_47, s_X8_tick_50, s_X8_tick_51, s_X8_tick_54, zN_neg1, nL0, nL1, nL2, nL3, nL4, nL5, nL6, nL7, nL8, nL9, nL10, nL11, nL12, nL13, nL14, nL20, nL21, nL22, nL23, nL25, nL32, nL33, nL39, nL40, nL43, nL44, nL99, nL100, nL120, nL216, nL217, nL218, nL219, nL220, nL221, nL500, nL999, nL1000, nL10000, nL100000, qT_lt, qF_lt, qT_le, qF_le, qT_eq, qF_eq, ↓reduceIte, and_true, true_and, false_and, and_false, not_true_eq_false, not_false_eq_true, decide_true, decide_false, Bool.true_or, Bool.or_true, Bool.false_or, Bool.or_false, cond_true, cond_false, qAn, show (zM < zN 0) = True from eq_true (by decide), c2]
theorem n_ticks7 : ∀ dq iq (Aq : TA) (fq : Nat → Int32), iq + dq = nq → nq < 2147483648 → invT Aq → repM Aq fq → ∃ f1, repM (tTicks dq Aq) f1 ∧ pwX so 162 7 [some (.ref aq), some (.int (zN nq)), some (.int tq), some (.int (zN iq))] [] g (mkA aq 221 fq w) = some (.inl (some (.int (zN (tL (tTicks dq Aq) 0).length - tq))), g, (mkA aq 221 f1 w)) := by
  intro dq
  induction dq with
  | zero =>
    intro iq Aq fq h1 h2 hI hM
    have h1 : iq = nq := by omega
    subst h1
    refine ⟨fq, hM, ?_⟩
    have m32 := hM.2.2.2.1.1
    simp (disch := omega) only [s_X8_goTicks_0, s_X8_goTicks_1, s_X8_goTicks_3, s_X8_goTicks_4, s_X8_goTicks_5, s_X8_goTicks_6, s_X8_goTicks_7, s_X8_goTicks_8, s_X8_goTicks_9, s_X8_goTicks_12, s_X8_goTicks_13, s_X8_goTicks_16, s_X8_goTicks_19, s_X8_goTicks_22, s_X8_goTicks_23, s_X8_goTicks_25, s_X8_goTicks_26, s_X8_goTicks_27, s_X8_goTicks_28, zN_neg1, nL0, nL1, nL2, nL3, nL4, nL5, nL6, nL7, nL8, nL9, nL10, nL11, nL12, nL13, nL14, nL20, nL21, nL22, nL23, nL25, nL32, nL33, nL39, nL40, nL43, nL44, nL99, nL100, nL120, nL216, nL217, nL218, nL219, nL220, nL221, nL500, nL999, nL1000, nL10000, nL100000, sh33, zN_lt, zN_le, zN_eq, zN_ge0, zN_lt0, zN_nm, zN_mn, zN_mlt, zN_ltm, zN_lem, zN_mle, zN_m1, zN_m2, zN_addm, zN_ofNat, zN_beq, zN_add, zN_mul, zN_rem, qT_lt, qF_lt, qT_le, qF_le, qT_eq, qF_eq, ↓reduceIte, and_true, true_and, false_and, and_false, not_true_eq_false, not_false_eq_true, decide_true, decide_false, Bool.true_or, Bool.or_true, Bool.false_or, Bool.or_false, cond_true, cond_false, ↓md_ld, m32, tTicks]
  | succ dq ih =>
    intro iq Aq fq h1 h2 hI hM
    obtain ⟨f1, a1, a2⟩ := @n_tick so g w aq fq Aq hI hM
    obtain ⟨f2, b1, b2⟩ := ih (iq + 1) (tTick Aq) f1 (by omega) h2 (inv_Tick hI) a1
    refine ⟨f2, b1, ?_⟩
    rw [s_X8_goTicks_7]
    simp (disch := omega) only [s_X8_goTicks_0, s_X8_goTicks_1, s_X8_goTicks_3, s_X8_goTicks_4, s_X8_goTicks_5, s_X8_goTicks_6, s_X8_goTicks_8, s_X8_goTicks_9, s_X8_goTicks_12, s_X8_goTicks_13, s_X8_goTicks_16, s_X8_goTicks_19, s_X8_goTicks_22, s_X8_goTicks_23, s_X8_goTicks_25, s_X8_goTicks_26, s_X8_goTicks_27, s_X8_goTicks_28, zN_neg1, nL0, nL1, nL2, nL3, nL4, nL5, nL6, nL7, nL8, nL9, nL10, nL11, nL12, nL13, nL14, nL20, nL21, nL22, nL23, nL25, nL32, nL33, nL39, nL40, nL43, nL44, nL99, nL100, nL120, nL216, nL217, nL218, nL219, nL220, nL221, nL500, nL999, nL1000, nL10000, nL100000, sh33, zN_lt, zN_le, zN_eq, zN_ge0, zN_lt0, zN_nm, zN_mn, zN_mlt, zN_ltm, zN_lem, zN_mle, zN_m1, zN_m2, zN_addm, zN_ofNat, zN_beq, zN_add, zN_mul, zN_rem, qT_lt, qF_lt, qT_le, qF_le, qT_eq, qF_eq, ↓reduceIte, and_true, true_and, false_and, and_false, not_true_eq_false, not_false_eq_true, decide_true, decide_false, Bool.true_or, Bool.or_true, Bool.false_or, Bool.or_false, cond_true, cond_false, qAn, a2]
    exact b2
theorem n_goTicks (h2 : nq < 2147483648) (hI : invT Aq) (hM : repM Aq fq) : ∃ f1, repM (tTicks nq Aq) f1 ∧ pwX so 162 0 [some (.ref aq), some (.int (zN nq)), none, none] [] g (mkA aq 221 fq w) = some (.inl (some (.int (zN (tL (tTicks nq Aq) 0).length - zN (tL Aq 0).length))), g, (mkA aq 221 f1 w)) := by
  obtain ⟨f1, a1, a2⟩ := @n_ticks7 so g w aq nq (zN (tL Aq 0).length) nq 0 Aq fq (by omega) h2 hI hM
  refine ⟨f1, a1, ?_⟩
  have m32 := hM.2.2.2.1.1
  simp (disch := omega) only [s_X8_goTicks_0, s_X8_goTicks_1, s_X8_goTicks_3, s_X8_goTicks_4, s_X8_goTicks_5, s_X8_goTicks_6, zN_neg1, nL0, nL1, nL2, nL3, nL4, nL5, nL6, nL7, nL8, nL9, nL10, nL11, nL12, nL13, nL14, nL20, nL21, nL22, nL23, nL25, nL32, nL33, nL39, nL40, nL43, nL44, nL99, nL100, nL120, nL216, nL217, nL218, nL219, nL220, nL221, nL500, nL999, nL1000, nL10000, nL100000, ↓md_ld, m32]
  exact a2
theorem n_goIn2 : ∀ dq iq (Aq : TA) (fq : Nat → Int32), iq + dq = 1000 → invT Aq → repM Aq fq → ∃ f1, pwX so 170 2 [some (.ref aq), some (.int (zN iq))] [] g (mkA aq 221 fq w) = some (.inl (some (.int (tIn dq iq Aq))), g, (mkA aq 221 f1 w)) := by
  intro dq
  induction dq with
  | zero =>
    intro iq Aq fq h1 hI hM
    have h1 : iq = 1000 := by omega
    subst h1
    refine ⟨fq, ?_⟩
    simp (disch := omega) only [s_X8_goIn_0, s_X8_goIn_1, s_X8_goIn_2, s_X8_goIn_3, s_X8_goIn_6, s_X8_goIn_9, s_X8_goIn_10, s_X8_goIn_12, s_X8_goIn_13, s_X8_goIn_14, s_X8_goIn_15, s_X8_goIn_16, s_X8_goIn_19, s_X8_goIn_20, s_X8_goIn_21, s_X8_goIn_22, s_X8_goIn_25, s_X8_goIn_28, s_X8_goIn_31, s_X8_goIn_32, zN_neg1, nL0, nL1, nL2, nL3, nL4, nL5, nL6, nL7, nL8, nL9, nL10, nL11, nL12, nL13, nL14, nL20, nL21, nL22, nL23, nL25, nL32, nL33, nL39, nL40, nL43, nL44, nL99, nL100, nL120, nL216, nL217, nL218, nL219, nL220, nL221, nL500, nL999, nL1000, nL10000, nL100000, sh33, zN_lt, zN_le, zN_eq, zN_ge0, zN_lt0, zN_nm, zN_mn, zN_mlt, zN_ltm, zN_lem, zN_mle, zN_m1, zN_m2, zN_addm, zN_ofNat, zN_beq, zN_add, zN_sub, zN_mul, zN_rem, qT_lt, qF_lt, qT_le, qF_le, qT_eq, qF_eq, ↓reduceIte, and_true, true_and, false_and, and_false, not_true_eq_false, not_false_eq_true, decide_true, decide_false, Bool.true_or, Bool.or_true, Bool.false_or, Bool.or_false, cond_true, cond_false, tIn]
  | succ dq ih =>
    intro iq Aq fq h1 hI hM
    have h4 := hI.1
    have hcl := come_len hI
    have m32 := hM.2.2.2.1.1
    have m0 := hM.1.1
    rw [s_X8_goIn_2]
    unfold tIn
    by_cases hh : (tL Aq 0).length = tN Aq 1
    · refine ⟨fq, ?_⟩
      simp (disch := omega) only [s_X8_goIn_0, s_X8_goIn_1, s_X8_goIn_3, s_X8_goIn_6, s_X8_goIn_9, s_X8_goIn_10, s_X8_goIn_12, s_X8_goIn_13, s_X8_goIn_14, s_X8_goIn_15, s_X8_goIn_16, s_X8_goIn_19, s_X8_goIn_20, s_X8_goIn_21, s_X8_goIn_22, s_X8_goIn_25, s_X8_goIn_28, s_X8_goIn_31, s_X8_goIn_32, zN_neg1, nL0, nL1, nL2, nL3, nL4, nL5, nL6, nL7, nL8, nL9, nL10, nL11, nL12, nL13, nL14, nL20, nL21, nL22, nL23, nL25, nL32, nL33, nL39, nL40, nL43, nL44, nL99, nL100, nL120, nL216, nL217, nL218, nL219, nL220, nL221, nL500, nL999, nL1000, nL10000, nL100000, sh33, zN_lt, zN_le, zN_eq, zN_ge0, zN_lt0, zN_nm, zN_mn, zN_mlt, zN_ltm, zN_lem, zN_mle, zN_m1, zN_m2, zN_addm, zN_ofNat, zN_beq, zN_add, zN_sub, zN_mul, zN_rem, qT_lt, qF_lt, qT_le, qF_le, qT_eq, qF_eq, ↓reduceIte, and_true, true_and, false_and, and_false, not_true_eq_false, not_false_eq_true, decide_true, decide_false, Bool.true_or, Bool.or_true, Bool.false_or, Bool.or_false, cond_true, cond_false, ↓md_ld, m32, m0, hh]
    · obtain ⟨f1, a1, a2⟩ := @n_tick so g w aq fq Aq hI hM
      obtain ⟨f2, b2⟩ := ih (iq + 1) (tTick Aq) f1 (by omega) (inv_Tick hI) a1
      refine ⟨f2, ?_⟩
      simp (disch := omega) only [s_X8_goIn_0, s_X8_goIn_1, s_X8_goIn_3, s_X8_goIn_6, s_X8_goIn_9, s_X8_goIn_10, s_X8_goIn_12, s_X8_goIn_13, s_X8_goIn_14, s_X8_goIn_15, s_X8_goIn_16, s_X8_goIn_19, s_X8_goIn_20, s_X8_goIn_21, s_X8_goIn_22, s_X8_goIn_25, s_X8_goIn_28, s_X8_goIn_31, s_X8_goIn_32, zN_neg1, nL0, nL1, nL2, nL3, nL4, nL5, nL6, nL7, nL8, nL9, nL10, nL11, nL12, nL13, nL14, nL20, nL21, nL22, nL23, nL25, nL32, nL33, nL39, nL40, nL43, nL44, nL99, nL100, nL120, nL216, nL217, nL218, nL219, nL220, nL221, nL500, nL999, nL1000, nL10000, nL100000, sh33, zN_lt, zN_le, zN_eq, zN_ge0, zN_lt0, zN_nm, zN_mn, zN_mlt, zN_ltm, zN_lem, zN_mle, zN_m1, zN_m2, zN_addm, zN_ofNat, zN_beq, zN_add, zN_sub, zN_mul, zN_rem, qT_lt, qF_lt, qT_le, qF_le, qT_eq, qF_eq, ↓reduceIte, and_true, true_and, false_and, and_false, not_true_eq_false, not_false_eq_true, decide_true, decide_false, Bool.true_or, Bool.or_true, Bool.false_or, Bool.or_false, cond_true, cond_false, ↓md_ld, m32, m0, qAn, a2]
      exact b2
theorem n_goIn (hI : invT Aq) (hM : repM Aq fq) : ∃ f1, pwX so 170 0 [some (.ref aq), none] [] g (mkA aq 221 fq w) = some (.inl (some (.int (tIn 1000 0 Aq))), g, (mkA aq 221 f1 w)) := by
  obtain ⟨f1, a1⟩ := @n_goIn2 so g w aq 1000 0 Aq fq (by omega) hI hM
  refine ⟨f1, ?_⟩
  simp (disch := omega) only [s_X8_goIn_0, s_X8_goIn_1, zN_neg1, nL0, nL1, nL2, nL3, nL4, nL5, nL6, nL7, nL8, nL9, nL10, nL11, nL12, nL13, nL14, nL20, nL21, nL22, nL23, nL25, nL32, nL33, nL39, nL40, nL43, nL44, nL99, nL100, nL120, nL216, nL217, nL218, nL219, nL220, nL221, nL500, nL999, nL1000, nL10000, nL100000]
  exact a1
end QA

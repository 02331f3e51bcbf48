/-! the pure part: a tick of the model: walk() as a whole -/
section QA
variable {so : Nat → Nat} {g : pwG} {w : pwW} {aq nq sq Sq : Nat} {fq hq : Nat → Int32} {pq rq tq uq : Int32} {Aq Bq : TA} {xq : Int64}
/-- what a part of a tick at a street leaves alone in the row -/
theorem repM_only (h4 : tN Aq 0 ≤ 4) (hI : invT Aq) (hM : repM Aq fq) (ho : onlyS sq Aq Bq) (hz : tE Bq = tE Aq ∧ tK Bq = tK Aq ∧ tT Bq = tT Aq ∧ tX Bq = tX Aq) (hs : sq < tN Aq 0) (hf : ∀ jq, jq < 44 + 43 * sq ∨ 44 + 43 * sq + 43 ≤ jq → hq jq = fq jq) (hr : repMs Bq hq sq) : repM Bq hq := by
  obtain ⟨⟨m0, m43, m216, m217, m218, m219, m220⟩, mk, ⟨m21, mst⟩, ⟨m32, mco⟩, ms⟩ := hM
  obtain ⟨o1, o2, o3, o4, o5⟩ := ho
  obtain ⟨z1, z2, z3, z4⟩ := hz
  have hcl := come_len hI
  have hst := len_split hI (Nat.zero_le _)
  have hst2 : (fDn Aq 0).length = (tL Aq 1).length := by unfold fDn; rw [List.length_map]
  have hmn := hI.1.2.1
  unfold repM
  rw [o1, o2, o3, z1, z2, z3, z4]
  refine ⟨⟨?_, ?_, ?_, ?_, ?_, ?_, ?_⟩, fun kq hk => ?_, ⟨?_, lsM_eq mst fun jq hj => hf _ (by omega)⟩, ⟨?_, lsM_eq mco fun jq hj => hf _ (by omega)⟩, fun s2 hs2 => ?_⟩
  · rw [hf _ (by omega)]; exact m0
  · rw [hf _ (by omega)]; exact m43
  · rw [hf _ (by omega)]; exact m216
  · rw [hf _ (by omega)]; exact m217
  · rw [hf _ (by omega)]; exact m218
  · rw [hf _ (by omega)]; exact m219
  · rw [hf _ (by omega)]; exact m220
  · rw [hf _ (by omega), hf _ (by omega)]; exact mk kq hk
  · rw [hf _ (by omega)]; exact m21
  · rw [hf _ (by omega)]; exact m32
  · by_cases hx : s2 = sq
    · subst hx; exact hr
    · obtain ⟨⟨⟨j1, j2⟩, ⟨j3, j4⟩, j5, j6, j7, j8⟩, j9, j10, j11⟩ := hI.2.2 s2 hs2
      have hrd2 := (rd_le hI hs2).1
      refine repMs_eq (ms s2 hs2) o1 (o4 s2 (by omega) hx).1 (o5 s2 (by omega)) (by omega) (by omega) (fun jq hj => hf _ (by omega)) (fun cq hc => ?_)
      rw [hf _ (by omega), (o4 s2 (by omega) hx).2]
      exact (ms s2 hs2).2.2.2 cq hc
/-- joining the crowd: from the start to the loop -/
theorem n_w1 (hI : invT Aq) (hM : repM Aq fq) (hs : sq < tN Aq 0) : ∃ f1, repM (tJoin Aq sq) f1 ∧ ∃ zq : Int32, pwX so 158 0 [some (.ref aq), some (.int (zN sq)), none, none, none] [] g (mkA aq 221 fq w) = pwX so 158 71 [some (.ref aq), some (.int (zN sq)), some (.int (zN (44 + 43 * sq))), some (.int zq), some (.int (zN (44 + 43 * sq + 22 + (tN Aq (4 + sq) - 1))))] [] g (mkA aq 221 f1 w) := by
  have h4 := hI.1
  have hM2 := hM
  obtain ⟨⟨m0, m43, m216, m217, m218, m219, m220⟩, mk, ⟨m21, mst⟩, ⟨m32, mco⟩, ms⟩ := hM
  obtain ⟨⟨⟨i1, i2⟩, ⟨i3, i4⟩, i5, i6, i7, i8⟩, i9, i10, i11⟩ := hI.2.2 sq hs
  obtain ⟨⟨a0, a1, a2, a3, a4⟩, ⟨b0, b1⟩, ⟨c0, c1⟩, d⟩ := ms sq hs
  have e1 : 44 + 43 * sq + 23 + tN Aq (4 + sq) - 1 = 44 + 43 * sq + 23 + (tN Aq (4 + sq) - 1) := by omega
  have e2 : 44 + 43 * sq + 23 + (tN Aq (4 + sq) - 1) - 1 = 44 + 43 * sq + 22 + (tN Aq (4 + sq) - 1) := by omega
  have hv := d (tN Aq (4 + sq) - 1) (by omega)
  have hw := (walk_lt hI hs).2
  unfold tJoin
  split
  · next hc =>
    rw [hc] at hv
    have hv : fq (44 + 43 * sq + 23 + (tN Aq (4 + sq) - 1)) = zM := hv
    refine ⟨fq, hM2, zN (44 + 43 * sq + 23 + (tN Aq (4 + sq) - 1)), ?_⟩
    simp (disch := omega) only [s_X8_walk_0, s_X8_walk_1, s_X8_walk_4, s_X8_walk_5, s_X8_walk_6, s_X8_walk_8, s_X8_walk_9, s_X8_walk_10, s_X8_walk_11, s_X8_walk_12, s_X8_walk_13, s_X8_walk_14, s_X8_walk_15, s_X8_walk_16, s_X8_walk_17, s_X8_walk_18, s_X8_walk_19, s_X8_walk_20, s_X8_walk_21, s_X8_walk_22, s_X8_walk_25, s_X8_walk_26, s_X8_walk_27, s_X8_walk_28, s_X8_walk_29, s_X8_walk_30, s_X8_walk_31, s_X8_walk_32, s_X8_walk_33, s_X8_walk_34, s_X8_walk_35, s_X8_walk_38, s_X8_walk_39, s_X8_walk_40, s_X8_walk_42, s_X8_walk_43, s_X8_walk_44, s_X8_walk_45, s_X8_walk_46, s_X8_walk_47, s_X8_walk_48, s_X8_walk_49, s_X8_walk_50, s_X8_walk_51, s_X8_walk_52, s_X8_walk_53, s_X8_walk_54, s_X8_walk_55, s_X8_walk_56, s_X8_walk_57, s_X8_walk_58, s_X8_walk_59, s_X8_walk_60, s_X8_walk_61, s_X8_walk_62, s_X8_walk_63, s_X8_walk_64, s_X8_walk_65, s_X8_walk_66, s_X8_walk_67, s_X8_walk_68, s_X8_walk_69, zN_neg1, nL0, nL1, nL2, nL3, nL4, nL5, nL6, nL7, nL8, nL9, nL10, nL11, nL12, nL13, nL14, nL20, nL21, nL22, nL23, nL25, nL32, nL33, nL39, nL40, nL43, nL44, nL99, nL100, nL120, nL216, nL217, nL218, nL219, nL220, nL221, nL500, nL999, nL1000, nL10000, nL100000, sh33, zN_lt, zN_le, zN_eq, zN_ge0, zN_lt0, zN_nm, zN_mn, zN_mlt, zN_ltm, zN_lem, zN_mle, zN_m1, zN_m2, zN_addm, zN_ofNat, zN_beq, zN_add, zN_sub, zN_mul, zN_rem, qT_lt, qF_lt, qT_le, qF_le, qT_eq, qF_eq, ↓reduceIte, and_true, true_and, false_and, and_false, not_true_eq_false, not_false_eq_true, decide_true, decide_false, Bool.true_or, Bool.or_true, Bool.false_or, Bool.or_false, cond_true, cond_false, ↓md_ld, qAv, n_block, a0, e1, hv, Nat.add_zero, e2]
  · next e9 es hc =>
    obtain ⟨ec, ek⟩ := e9
    rw [hc] at i10 hv hw
    have hk : ek < 10 := by have h8 : ek < tN Aq 1 := hw (ec, ek) List.mem_cons_self; omega
    have hlt : ec < tN Aq (4 + sq) := i10.1
    by_cases hj : ec + 1 = tN Aq (4 + sq)
    · have hv : fq (44 + 43 * sq + 23 + (tN Aq (4 + sq) - 1)) = zN ek := by
        rw [hv]; show oV (if ec = tN Aq (4 + sq) - 1 then some ek else _) = _; rw [if_pos (by omega)]; rfl
      by_cases hcr : (tL Aq (4 + sq)).length < tN Aq (20 + sq)
      · rw [if_pos ⟨hj, hcr⟩]
        refine ⟨upd (upd (upd fq (44 + 43 * sq + 6 + (tL Aq (4 + sq)).length) (zN ek)) (44 + 43 * sq + 5) (zN ((tL Aq (4 + sq)).length + 1))) (44 + 43 * sq + 23 + (tN Aq (4 + sq) - 1)) zM, ?_, zN (44 + 43 * sq + 23 + (tN Aq (4 + sq) - 1)), ?_⟩
        · refine repM_only h4.1 hI hM2 (only_Jn (by omega)) ⟨rfl, rfl, rfl, rfl⟩ hs (fun jq hj => ?_) ?_
          · rw [qU_n (by omega), qU_n (by omega), qU_n (by omega)]
          · have hrd := (rd_le hI hs).1
            have t1 : tL (tJn Aq sq (ec, ek) es) (4 + sq) = tL Aq (4 + sq) ++ [ek] := va_up_self _ _ _
            have t2 : tL (tJn Aq sq (ec, ek) es) (8 + sq) = tL Aq (8 + sq) := va_up_ne _ _ (by omega)
            have t3 : tC (tJn Aq sq (ec, ek) es) sq = es := va_up_self _ _ _
            have t4 : tN (tJn Aq sq (ec, ek) es) = tN Aq := rfl
            unfold repMs
            rw [t1, t2, t3, t4, List.length_append, List.length_singleton]
            refine ⟨⟨?_, ?_, ?_, ?_, ?_⟩, ⟨?_, lsM_snoc b1 (fun jq hj => ?_) ?_⟩, ⟨?_, lsM_eq c1 fun jq hj => ?_⟩, fun cq hcq => ?_⟩
            · simp (disch := omega) only [qU_n]; exact a0
            · simp (disch := omega) only [qU_n]; exact a1
            · simp (disch := omega) only [qU_n]; exact a2
            · simp (disch := omega) only [qU_n]; exact a3
            · simp (disch := omega) only [qU_n]; exact a4
            · simp (disch := omega) only [qU_n, qU_s]
            · simp (disch := omega) only [qU_n]
            · simp (disch := omega) only [qU_n, qU_s]
            · simp (disch := omega) only [qU_n]; exact c0
            · simp (disch := omega) only [qU_n]
            · by_cases hx : cq = tN Aq (4 + sq) - 1
              · subst hx
                rw [qU_s, cO_below i10.2 (show ec ≤ tN Aq (4 + sq) - 1 by omega)]; rfl
              · rw [qU_n (by omega), qU_n (by omega), qU_n (by omega), d cq hcq, hc]
                show oV (if ec = cq then some ek else cO es cq) = _
                rw [if_neg (by omega)]
        · simp (disch := omega) only [s_X8_walk_0, s_X8_walk_1, s_X8_walk_4, s_X8_walk_5, s_X8_walk_6, s_X8_walk_8, s_X8_walk_9, s_X8_walk_10, s_X8_walk_11, s_X8_walk_12, s_X8_walk_13, s_X8_walk_14, s_X8_walk_15, s_X8_walk_16, s_X8_walk_17, s_X8_walk_18, s_X8_walk_19, s_X8_walk_20, s_X8_walk_21, s_X8_walk_22, s_X8_walk_25, s_X8_walk_26, s_X8_walk_27, s_X8_walk_28, s_X8_walk_29, s_X8_walk_30, s_X8_walk_31, s_X8_walk_32, s_X8_walk_33, s_X8_walk_34, s_X8_walk_35, s_X8_walk_38, s_X8_walk_39, s_X8_walk_40, s_X8_walk_42, s_X8_walk_43, s_X8_walk_44, s_X8_walk_45, s_X8_walk_46, s_X8_walk_47, s_X8_walk_48, s_X8_walk_49, s_X8_walk_50, s_X8_walk_51, s_X8_walk_52, s_X8_walk_53, s_X8_walk_54, s_X8_walk_55, s_X8_walk_56, s_X8_walk_57, s_X8_walk_58, s_X8_walk_59, s_X8_walk_60, s_X8_walk_61, s_X8_walk_62, s_X8_walk_63, s_X8_walk_64, s_X8_walk_65, s_X8_walk_66, s_X8_walk_67, s_X8_walk_68, s_X8_walk_69, zN_neg1, nL0, nL1, nL2, nL3, nL4, nL5, nL6, nL7, nL8, nL9, nL10, nL11, nL12, nL13, nL14, nL20, nL21, nL22, nL23, nL25, nL32, nL33, nL39, nL40, nL43, nL44, nL99, nL100, nL120, nL216, nL217, nL218, nL219, nL220, nL221, nL500, nL999, nL1000, nL10000, nL100000, sh33, zN_lt, zN_le, zN_eq, zN_ge0, zN_lt0, zN_nm, zN_mn, zN_mlt, zN_ltm, zN_lem, zN_mle, zN_m1, zN_m2, zN_addm, zN_ofNat, zN_beq, zN_add, zN_sub, zN_mul, zN_rem, qT_lt, qF_lt, qT_le, qF_le, qT_eq, qF_eq, ↓reduceIte, and_true, true_and, false_and, and_false, not_true_eq_false, not_false_eq_true, decide_true, decide_false, Bool.true_or, Bool.or_true, Bool.false_or, Bool.or_false, cond_true, cond_false, ↓md_ld, ↓md_st, qAv, n_block, a0, e1, hv, Nat.add_zero, e2, b0, a4, qU_n, qU_s]
      · rw [if_neg (fun h => hcr h.2)]
        refine ⟨fq, hM2, zN (44 + 43 * sq + 23 + (tN Aq (4 + sq) - 1)), ?_⟩
        simp (disch := omega) only [s_X8_walk_0, s_X8_walk_1, s_X8_walk_4, s_X8_walk_5, s_X8_walk_6, s_X8_walk_8, s_X8_walk_9, s_X8_walk_10, s_X8_walk_11, s_X8_walk_12, s_X8_walk_13, s_X8_walk_14, s_X8_walk_15, s_X8_walk_16, s_X8_walk_17, s_X8_walk_18, s_X8_walk_19, s_X8_walk_20, s_X8_walk_21, s_X8_walk_22, s_X8_walk_25, s_X8_walk_26, s_X8_walk_27, s_X8_walk_28, s_X8_walk_29, s_X8_walk_30, s_X8_walk_31, s_X8_walk_32, s_X8_walk_33, s_X8_walk_34, s_X8_walk_35, s_X8_walk_38, s_X8_walk_39, s_X8_walk_40, s_X8_walk_42, s_X8_walk_43, s_X8_walk_44, s_X8_walk_45, s_X8_walk_46, s_X8_walk_47, s_X8_walk_48, s_X8_walk_49, s_X8_walk_50, s_X8_walk_51, s_X8_walk_52, s_X8_walk_53, s_X8_walk_54, s_X8_walk_55, s_X8_walk_56, s_X8_walk_57, s_X8_walk_58, s_X8_walk_59, s_X8_walk_60, s_X8_walk_61, s_X8_walk_62, s_X8_walk_63, s_X8_walk_64, s_X8_walk_65, s_X8_walk_66, s_X8_walk_67, s_X8_walk_68, s_X8_walk_69, zN_neg1, nL0, nL1, nL2, nL3, nL4, nL5, nL6, nL7, nL8, nL9, nL10, nL11, nL12, nL13, nL14, nL20, nL21, nL22, nL23, nL25, nL32, nL33, nL39, nL40, nL43, nL44, nL99, nL100, nL120, nL216, nL217, nL218, nL219, nL220, nL221, nL500, nL999, nL1000, nL10000, nL100000, sh33, zN_lt, zN_le, zN_eq, zN_ge0, zN_lt0, zN_nm, zN_mn, zN_mlt, zN_ltm, zN_lem, zN_mle, zN_m1, zN_m2, zN_addm, zN_ofNat, zN_beq, zN_add, zN_sub, zN_mul, zN_rem, qT_lt, qF_lt, qT_le, qF_le, qT_eq, qF_eq, ↓reduceIte, and_true, true_and, false_and, and_false, not_true_eq_false, not_false_eq_true, decide_true, decide_false, Bool.true_or, Bool.or_true, Bool.false_or, Bool.or_false, cond_true, cond_false, ↓md_ld, ↓md_st, qAv, n_block, a0, e1, hv, Nat.add_zero, e2, b0, a4]
    · have hv : fq (44 + 43 * sq + 23 + (tN Aq (4 + sq) - 1)) = zM := by
        rw [hv]; show oV (if ec = tN Aq (4 + sq) - 1 then some ek else cO es _) = _
        rw [if_neg (by omega), cO_below i10.2 (show ec ≤ tN Aq (4 + sq) - 1 by omega)]; rfl
      rw [if_neg (fun h => hj h.1)]
      refine ⟨fq, hM2, zN (44 + 43 * sq + 23 + (tN Aq (4 + sq) - 1)), ?_⟩
      simp (disch := omega) only [s_X8_walk_0, s_X8_walk_1, s_X8_walk_4, s_X8_walk_5, s_X8_walk_6, s_X8_walk_8, s_X8_walk_9, s_X8_walk_10, s_X8_walk_11, s_X8_walk_12, s_X8_walk_13, s_X8_walk_14, s_X8_walk_15, s_X8_walk_16, s_X8_walk_17, s_X8_walk_18, s_X8_walk_19, s_X8_walk_20, s_X8_walk_21, s_X8_walk_22, s_X8_walk_25, s_X8_walk_26, s_X8_walk_27, s_X8_walk_28, s_X8_walk_29, s_X8_walk_30, s_X8_walk_31, s_X8_walk_32, s_X8_walk_33, s_X8_walk_34, s_X8_walk_35, s_X8_walk_38, s_X8_walk_39, s_X8_walk_40, s_X8_walk_42, s_X8_walk_43, s_X8_walk_44, s_X8_walk_45, s_X8_walk_46, s_X8_walk_47, s_X8_walk_48, s_X8_walk_49, s_X8_walk_50, s_X8_walk_51, s_X8_walk_52, s_X8_walk_53, s_X8_walk_54, s_X8_walk_55, s_X8_walk_56, s_X8_walk_57, s_X8_walk_58, s_X8_walk_59, s_X8_walk_60, s_X8_walk_61, s_X8_walk_62, s_X8_walk_63, s_X8_walk_64, s_X8_walk_65, s_X8_walk_66, s_X8_walk_67, s_X8_walk_68, s_X8_walk_69, zN_neg1, nL0, nL1, nL2, nL3, nL4, nL5, nL6, nL7, nL8, nL9, nL10, nL11, nL12, nL13, nL14, nL20, nL21, nL22, nL23, nL25, nL32, nL33, nL39, nL40, nL43, nL44, nL99, nL100, nL120, nL216, nL217, nL218, nL219, nL220, nL221, nL500, nL999, nL1000, nL10000, nL100000, sh33, zN_lt, zN_le, zN_eq, zN_ge0, zN_lt0, zN_nm, zN_mn, zN_mlt, zN_ltm, zN_lem, zN_mle, zN_m1, zN_m2, zN_addm, zN_ofNat, zN_beq, zN_add, zN_sub, zN_mul, zN_rem, qT_lt, qF_lt, qT_le, qF_le, qT_eq, qF_eq, ↓reduceIte, and_true, true_and, false_and, and_false, not_true_eq_false, not_false_eq_true, decide_true, decide_false, Bool.true_or, Bool.or_true, Bool.false_or, Bool.or_false, cond_true, cond_false, ↓md_ld, qAv, n_block, a0, e1, hv, Nat.add_zero, e2]
theorem repMs_C {es : List (Nat × Nat)} (hI : invT Aq) (hs : sq < tN Aq 0) (h : repMs Aq fq sq) (hf : ∀ jq, jq < 44 + 43 * sq + 23 ∨ 44 + 43 * sq + 43 ≤ jq → hq jq = fq jq) (hc : ∀ jq, jq < 20 → hq (44 + 43 * sq + 23 + jq) = oV (cO es jq)) : repMs (tSetC Aq sq es) hq sq := by
  have hrd := (rd_le hI hs).1
  obtain ⟨⟨⟨i1, i2⟩, ⟨i3, i4⟩, i5, i6, i7, i8⟩, i9, i10, i11⟩ := hI.2.2 sq hs
  refine repMs_eq (Bq := tSetC Aq sq es) h rfl rfl rfl (by omega) (by omega) (fun jq hj => hf _ (by omega)) (fun cq hcq => ?_)
  have t3 : tC (tSetC Aq sq es) sq = es := va_up_self _ _ _
  rw [t3]; exact hc cq hcq
theorem n_w2 {zq : Int32} (hI : invT Aq) (hM : repM Aq fq) (hs : sq < tN Aq 0) : ∃ f1, repM (tMv Aq sq) f1 ∧ pwX so 158 71 [some (.ref aq), some (.int (zN sq)), some (.int (zN (44 + 43 * sq))), some (.int zq), some (.int (zN (44 + 43 * sq + 22 + (tN Aq (4 + sq) - 1))))] [] g (mkA aq 221 fq w) = some (.inl none, g, (mkA aq 221 f1 w)) := by
  have h4 := hI.1
  have hms := hM.2.2.2.2 sq hs
  obtain ⟨⟨⟨i1, i2⟩, ⟨i3, i4⟩, i5, i6, i7, i8⟩, i9, i10, i11⟩ := hI.2.2 sq hs
  have hw := (walk_lt hI hs).2
  have key : ∃ (rs ms : List (Nat × Nat)) (lm : Nat), tC Aq sq = ms ++ rs ∧ mvC (tN Aq (4 + sq)) (tC Aq sq) = ms ++ mvC lm rs ∧ tN Aq (4 + sq) - 1 ≤ lm ∧ cDown (tN Aq (4 + sq) - 1) rs ∧ (lm = tN Aq (4 + sq) ∨ ∃ mq ∈ ms, mq.1 = lm) ∧ ∀ mq ∈ ms, lm ≤ mq.1 := by
    cases hc : tC Aq sq with
    | nil => exact ⟨[], [], tN Aq (4 + sq), rfl, rfl, by omega, trivial, Or.inl rfl, fun mq h => by cases h⟩
    | cons e es =>
      rw [hc] at i10
      by_cases he : e.1 + 1 = tN Aq (4 + sq)
      · refine ⟨es, [e], e.1, rfl, mvC_f (by omega), by omega, ?_, Or.inr ⟨e, List.mem_cons_self, rfl⟩, fun mq h => by cases List.mem_singleton.mp h; exact Nat.le_refl _⟩
        rw [show tN Aq (4 + sq) - 1 = e.1 by omega]; exact i10.2
      · have := i10.1
        exact ⟨e :: es, [], tN Aq (4 + sq), rfl, rfl, by omega, ⟨by omega, i10.2⟩, Or.inl rfl, fun mq h => by cases h⟩
  obtain ⟨rs, ms, lm, k1, k2, k3, k4, k5, k6⟩ := key
  obtain ⟨f1, j1, j2, j3⟩ := @n_mv71 so g w aq sq zq (tN Aq (4 + sq)) (by omega) i2 (tN Aq (4 + sq) - 1) rs ms lm fq (by omega) k3 k4 k5 k6 (fun eq he => by have := hw eq (by rw [k1]; exact he); omega) (fun jq hj => by rw [← k1]; exact hms.2.2.2 jq hj)
  refine ⟨f1, ?_, j3⟩
  exact repM_only h4.1 hI hM only_C ⟨rfl, rfl, rfl, rfl⟩ hs (fun jq hj => j1 jq (by omega)) (repMs_C hI hs hms j1 (fun jq hj => by rw [j2 jq hj, k2]))
theorem n_walk (hI : invT Aq) (hM : repM Aq fq) (hs : sq < tN Aq 0) : ∃ f1, repM (tMv (tJoin Aq sq) sq) f1 ∧ pwX so 158 0 [some (.ref aq), some (.int (zN sq)), none, none, none] [] g (mkA aq 221 fq w) = some (.inl none, g, (mkA aq 221 f1 w)) := by
  obtain ⟨f1, h1, zq, h2⟩ := @n_w1 so g w aq sq fq Aq hI hM hs
  have h5 : tN (tJoin Aq sq) (4 + sq) = tN Aq (4 + sq) := by rw [tJoin_N]
  obtain ⟨f2, h3, h4⟩ := @n_w2 so g w aq sq f1 (tJoin Aq sq) zq (inv_Join hI hs) h1 (by rw [tJoin_N]; exact hs)
  rw [h5] at h4
  exact ⟨f2, h3, h2.trans h4⟩
end QA

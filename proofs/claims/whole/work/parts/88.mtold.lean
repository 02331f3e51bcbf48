/-! the pure part: the model: counts, told(), copies -/
theorem qC_cO {e9 : Nat × Nat} {es : List (Nat × Nat)} (h : cO es e9.1 = none) : ∀ nq, qC (fun cq => (cO (e9 :: es) cq).isSome) nq = qC (fun cq => (cO es cq).isSome) nq + (if e9.1 < nq then 1 else 0) := by
  intro nq
  induction nq with
  | zero => rfl
  | succ nq ih =>
    show qC _ nq + (if (cO (e9 :: es) nq).isSome = true then 1 else 0) = qC _ nq + (if (cO es nq).isSome = true then 1 else 0) + _
    rw [ih]
    have hc : cO (e9 :: es) nq = if e9.1 = nq then some e9.2 else cO es nq := rfl
    rw [hc]
    by_cases hx : e9.1 = nq
    · subst hx
      rw [if_pos rfl, h, if_neg (Nat.lt_irrefl _), if_pos (Nat.lt_succ_self _)]
      simp
    · rw [if_neg hx]
      by_cases hy : e9.1 < nq
      · rw [if_pos hy, if_pos (show e9.1 < nq + 1 by omega)]; omega
      · rw [if_neg hy, if_neg (show ¬ e9.1 < nq + 1 by omega)]; omega
theorem qC_len : ∀ {es : List (Nat × Nat)} {lm nq : Nat}, cDown lm es → lm ≤ nq → qC (fun cq => (cO es cq).isSome) nq = es.length := by
  intro es
  induction es with
  | nil =>
    intro lm nq _ _
    have hz : ∀ nq, qC (fun cq => (cO [] cq).isSome) nq = 0 := by
      intro nq
      induction nq with
      | zero => rfl
      | succ nq ih => rw [qC_f rfl, ih]
    exact hz nq
  | cons e es ih =>
    intro lm nq hd hl
    rw [qC_cO (cO_below hd.2 (Nat.le_refl _)), ih hd.2 (show e.1 ≤ nq by have := hd.1; omega), if_pos (by have := hd.1; omega)]; rfl
section QA
variable {so : Nat → Nat} {g : pwG} {aq bq jr : Nat} {w : pwW} {Aq Bq : TA} {nq sq kq oq : Nat} {pq rq tq uq : Int32} {fq hq : Nat → Int32} {sc : Nat → Int32} {Rq : Nat → Nat → Int32}
theorem n_ic10 {es : List (Nat × Nat)} {ce : Nat} (hs : sq < 4) (hce : fq (44 + 43 * sq) = zN ce) (hc20 : ce ≤ 20) (hl : ∀ cq, cq < 20 → fq (44 + 43 * sq + 23 + cq) = oV (cO es cq)) (hw : ∀ eq ∈ es, eq.2 < 10) : ∀ dq cz, cz + dq = ce → pwX so 152 10 [some (.ref aq), some (.int (zN sq)), some (.int (zN (44 + 43 * sq))), some (.int (zN (qC (fun cq => (cO es cq).isSome) cz))), some (.int (zN cz))] [] g (mkA aq 221 fq w) = some (.inl (some (.int (zN (qC (fun cq => (cO es cq).isSome) ce)))), g, (mkA aq 221 fq w)) := by
  intro dq
  induction dq with
  | zero =>
    intro cz h1
    have h1 : cz = ce := by omega
    subst h1
    simp (disch := omega) only [s_X8_inCells_10, s_X8_inCells_12, s_X8_inCells_13, s_X8_inCells_14, s_X8_inCells_15, s_X8_inCells_16, s_X8_inCells_17, s_X8_inCells_47, s_X8_inCells_48, ↓md_ld, zN_neg1, nL0, nL1, nL2, nL3, nL4, nL5, nL6, nL7, nL8, nL9, nL10, nL11, nL12, nL13, nL14, nL20, nL21, nL22, nL23, nL25, nL32, nL33, nL39, nL40, nL43, nL44, nL99, nL100, nL120, nL216, nL217, nL218, nL219, nL220, nL221, nL500, nL999, nL1000, nL10000, nL100000, sh33, zN_lt, zN_le, zN_eq, zN_ge0, zN_lt0, zN_nm, zN_mn, zN_mlt, zN_ltm, zN_lem, zN_mle, zN_m1, zN_m2, zN_addm, zN_ofNat, zN_beq, zN_add, zN_sub, zN_mul, zN_rem, qT_lt, qF_lt, qT_le, qF_le, qT_eq, qF_eq, ↓reduceIte, and_true, true_and, false_and, and_false, not_true_eq_false, not_false_eq_true, decide_true, decide_false, Bool.true_or, Bool.or_true, Bool.false_or, Bool.or_false, cond_true, cond_false, hce, Nat.add_zero]
  | succ dq ih =>
    intro cz h1
    have h5 := ih (cz + 1) (by omega)
    have hv := hl cz (by omega)
    rw [s_X8_inCells_10]
    cases h9 : cO es cz with
    | none =>
      rw [h9] at hv
      have hv : fq (44 + 43 * sq + 23 + cz) = zM := hv
      rw [qC_f (by rw [h9]; rfl)] at h5
      simp (disch := omega) only [s_X8_inCells_12, s_X8_inCells_13, s_X8_inCells_14, s_X8_inCells_15, s_X8_inCells_16, s_X8_inCells_17, s_X8_inCells_20, s_X8_inCells_21, s_X8_inCells_22, s_X8_inCells_23, s_X8_inCells_25, s_X8_inCells_26, s_X8_inCells_28, s_X8_inCells_29, s_X8_inCells_30, s_X8_inCells_31, s_X8_inCells_34, s_X8_inCells_35, s_X8_inCells_38, s_X8_inCells_39, s_X8_inCells_40, s_X8_inCells_41, s_X8_inCells_44, ↓md_ld, zN_neg1, nL0, nL1, nL2, nL3, nL4, nL5, nL6, nL7, nL8, nL9, nL10, nL11, nL12, nL13, nL14, nL20, nL21, nL22, nL23, nL25, nL32, nL33, nL39, nL40, nL43, nL44, nL99, nL100, nL120, nL216, nL217, nL218, nL219, nL220, nL221, nL500, nL999, nL1000, nL10000, nL100000, sh33, zN_lt, zN_le, zN_eq, zN_ge0, zN_lt0, zN_nm, zN_mn, zN_mlt, zN_ltm, zN_lem, zN_mle, zN_m1, zN_m2, zN_addm, zN_ofNat, zN_beq, zN_add, zN_sub, zN_mul, zN_rem, qT_lt, qF_lt, qT_le, qF_le, qT_eq, qF_eq, ↓reduceIte, and_true, true_and, false_and, and_false, not_true_eq_false, not_false_eq_true, decide_true, decide_false, Bool.true_or, Bool.or_true, Bool.false_or, Bool.or_false, cond_true, cond_false, hce, Nat.add_zero, hv]
      exact h5
    | some k9 =>
      have h8 : k9 < 10 := hw _ (cO_mem h9)
      rw [h9] at hv
      have hv : fq (44 + 43 * sq + 23 + cz) = zN k9 := hv
      rw [qC_s (by rw [h9]; rfl)] at h5
      simp (disch := omega) only [s_X8_inCells_12, s_X8_inCells_13, s_X8_inCells_14, s_X8_inCells_15, s_X8_inCells_16, s_X8_inCells_17, s_X8_inCells_20, s_X8_inCells_21, s_X8_inCells_22, s_X8_inCells_23, s_X8_inCells_25, s_X8_inCells_26, s_X8_inCells_28, s_X8_inCells_29, s_X8_inCells_30, s_X8_inCells_31, s_X8_inCells_34, s_X8_inCells_35, s_X8_inCells_38, s_X8_inCells_39, s_X8_inCells_40, s_X8_inCells_41, s_X8_inCells_44, ↓md_ld, zN_neg1, nL0, nL1, nL2, nL3, nL4, nL5, nL6, nL7, nL8, nL9, nL10, nL11, nL12, nL13, nL14, nL20, nL21, nL22, nL23, nL25, nL32, nL33, nL39, nL40, nL43, nL44, nL99, nL100, nL120, nL216, nL217, nL218, nL219, nL220, nL221, nL500, nL999, nL1000, nL10000, nL100000, sh33, zN_lt, zN_le, zN_eq, zN_ge0, zN_lt0, zN_nm, zN_mn, zN_mlt, zN_ltm, zN_lem, zN_mle, zN_m1, zN_m2, zN_addm, zN_ofNat, zN_beq, zN_add, zN_sub, zN_mul, zN_rem, qT_lt, qF_lt, qT_le, qF_le, qT_eq, qF_eq, ↓reduceIte, and_true, true_and, false_and, and_false, not_true_eq_false, not_false_eq_true, decide_true, decide_false, Bool.true_or, Bool.or_true, Bool.false_or, Bool.or_false, cond_true, cond_false, hce, Nat.add_zero, hv]
      exact h5
theorem n_inCells (hI : invT Aq) (hz : repM Aq fq) (hs : sq < tN Aq 0) : pwX so 152 0 [some (.ref aq), some (.int (zN sq)), none, none, none] [] g (mkA aq 221 fq w) = some (.inl (some (.int (zN (tC Aq sq).length))), g, (mkA aq 221 fq w)) := by
  have h4 := hI.1
  obtain ⟨⟨a0, -⟩, -, -, d⟩ := hz.2.2.2.2 sq hs
  obtain ⟨⟨⟨i1, i2⟩, ⟨i3, i4⟩, i5, i6, i7, i8⟩, i9, i10, i11⟩ := hI.2.2 sq hs
  have h := @n_ic10 so g aq w sq fq (tC Aq sq) (tN Aq (4 + sq)) (by omega) a0 i2 d (fun e9 he => by have := (walk_lt hI hs).2 e9 he; omega) (tN Aq (4 + sq)) 0 (by omega)
  rw [qC_len i10 (Nat.le_refl _)] at h
  simp (disch := omega) only [s_X8_inCells_0, s_X8_inCells_1, s_X8_inCells_4, s_X8_inCells_5, s_X8_inCells_6, s_X8_inCells_7, s_X8_inCells_8, zN_neg1, nL0, nL1, nL2, nL3, nL4, nL5, nL6, nL7, nL8, nL9, nL10, nL11, nL12, nL13, nL14, nL20, nL21, nL22, nL23, nL25, nL32, nL33, nL39, nL40, nL43, nL44, nL99, nL100, nL120, nL216, nL217, nL218, nL219, nL220, nL221, nL500, nL999, nL1000, nL10000, nL100000, qAv, n_block]
  exact h
theorem n_all4 {bz : Nat} (hb : bz ≤ 1) (hI : invT Aq) (hz : repM Aq fq) : ∀ dq sz, sz + dq = tN Aq 0 → pwX so 153 4 [some (.ref aq), some (.int (zN bz)), some (.int (zN (sm (fun s9 => if bz = 1 then (tL Aq (4 + s9)).length else (tC Aq s9).length) sz))), some (.int (zN sz))] [] g (mkA aq 221 fq w) = some (.inl (some (.int (zN (sm (fun s9 => if bz = 1 then (tL Aq (4 + s9)).length else (tC Aq s9).length) (tN Aq 0))))), g, (mkA aq 221 fq w)) := by
  have h4 := hI.1
  have m43 := hz.1.2.1
  intro dq
  induction dq with
  | zero =>
    intro sz h1
    have h1 : sz = tN Aq 0 := by omega
    subst h1
    simp (disch := omega) only [s_X8_all_4, s_X8_all_5, s_X8_all_6, s_X8_all_8, s_X8_all_9, s_X8_all_41, s_X8_all_42, ↓md_ld, zN_neg1, nL0, nL1, nL2, nL3, nL4, nL5, nL6, nL7, nL8, nL9, nL10, nL11, nL12, nL13, nL14, nL20, nL21, nL22, nL23, nL25, nL32, nL33, nL39, nL40, nL43, nL44, nL99, nL100, nL120, nL216, nL217, nL218, nL219, nL220, nL221, nL500, nL999, nL1000, nL10000, nL100000, sh33, zN_lt, zN_le, zN_eq, zN_ge0, zN_lt0, zN_nm, zN_mn, zN_mlt, zN_ltm, zN_lem, zN_mle, zN_m1, zN_m2, zN_addm, zN_ofNat, zN_beq, zN_add, zN_sub, zN_mul, zN_rem, qT_lt, qF_lt, qT_le, qF_le, qT_eq, qF_eq, ↓reduceIte, and_true, true_and, false_and, and_false, not_true_eq_false, not_false_eq_true, decide_true, decide_false, Bool.true_or, Bool.or_true, Bool.false_or, Bool.or_false, cond_true, cond_false, m43]
  | succ dq ih =>
    intro sz h1
    have h5 := ih (sz + 1) (by omega)
    have hs : sz < tN Aq 0 := by omega
    have b0 := (hz.2.2.2.2 sz hs).2.1.1
    have a := @n_inCells so g aq w Aq sz fq hI hz hs
    rw [sm_s] at h5
    rw [s_X8_all_4]
    by_cases hx : bz = 1
    · subst hx
      rw [if_pos rfl] at h5
      simp (disch := omega) only [s_X8_all_5, s_X8_all_6, s_X8_all_8, s_X8_all_9, s_X8_all_12, s_X8_all_13, s_X8_all_14, s_X8_all_17, s_X8_all_18, s_X8_all_19, s_X8_all_22, s_X8_all_23, s_X8_all_24, s_X8_all_25, s_X8_all_28, s_X8_all_29, s_X8_all_30, s_X8_all_33, s_X8_all_34, s_X8_all_35, s_X8_all_38, ↓md_ld, zN_neg1, nL0, nL1, nL2, nL3, nL4, nL5, nL6, nL7, nL8, nL9, nL10, nL11, nL12, nL13, nL14, nL20, nL21, nL22, nL23, nL25, nL32, nL33, nL39, nL40, nL43, nL44, nL99, nL100, nL120, nL216, nL217, nL218, nL219, nL220, nL221, nL500, nL999, nL1000, nL10000, nL100000, sh33, zN_lt, zN_le, zN_eq, zN_ge0, zN_lt0, zN_nm, zN_mn, zN_mlt, zN_ltm, zN_lem, zN_mle, zN_m1, zN_m2, zN_addm, zN_ofNat, zN_beq, zN_add, zN_sub, zN_mul, zN_rem, qT_lt, qF_lt, qT_le, qF_le, qT_eq, qF_eq, ↓reduceIte, and_true, true_and, false_and, and_false, not_true_eq_false, not_false_eq_true, decide_true, decide_false, Bool.true_or, Bool.or_true, Bool.false_or, Bool.or_false, cond_true, cond_false, m43, qAv, n_block, b0]
      exact h5
    · have hx0 : bz = 0 := by omega
      subst hx0
      rw [if_neg (by decide)] at h5
      simp (disch := omega) only [s_X8_all_5, s_X8_all_6, s_X8_all_8, s_X8_all_9, s_X8_all_12, s_X8_all_13, s_X8_all_14, s_X8_all_17, s_X8_all_18, s_X8_all_19, s_X8_all_22, s_X8_all_23, s_X8_all_24, s_X8_all_25, s_X8_all_28, s_X8_all_29, s_X8_all_30, s_X8_all_33, s_X8_all_34, s_X8_all_35, s_X8_all_38, ↓md_ld, zN_neg1, nL0, nL1, nL2, nL3, nL4, nL5, nL6, nL7, nL8, nL9, nL10, nL11, nL12, nL13, nL14, nL20, nL21, nL22, nL23, nL25, nL32, nL33, nL39, nL40, nL43, nL44, nL99, nL100, nL120, nL216, nL217, nL218, nL219, nL220, nL221, nL500, nL999, nL1000, nL10000, nL100000, sh33, zN_lt, zN_le, zN_eq, zN_ge0, zN_lt0, zN_nm, zN_mn, zN_mlt, zN_ltm, zN_lem, zN_mle, zN_m1, zN_m2, zN_addm, zN_ofNat, zN_beq, zN_add, zN_sub, zN_mul, zN_rem, qT_lt, qF_lt, qT_le, qF_le, qT_eq, qF_eq, ↓reduceIte, and_true, true_and, false_and, and_false, not_true_eq_false, not_false_eq_true, decide_true, decide_false, Bool.true_or, Bool.or_true, Bool.false_or, Bool.or_false, cond_true, cond_false, m43, qAv, a]
      exact h5
theorem n_all0 (hI : invT Aq) (hz : repM Aq fq) : pwX so 153 0 [some (.ref aq), some (.int (zN 0)), none, none] [] g (mkA aq 221 fq w) = some (.inl (some (.int (zN (aCe Aq)))), g, (mkA aq 221 fq w)) := by
  have h := @n_all4 so g aq w Aq fq 0 (by omega) hI hz (tN Aq 0) 0 (by omega)
  simp (disch := omega) only [s_X8_all_0, s_X8_all_1, s_X8_all_2, s_X8_all_3, zN_neg1, nL0, nL1, nL2, nL3, nL4, nL5, nL6, nL7, nL8, nL9, nL10, nL11, nL12, nL13, nL14, nL20, nL21, nL22, nL23, nL25, nL32, nL33, nL39, nL40, nL43, nL44, nL99, nL100, nL120, nL216, nL217, nL218, nL219, nL220, nL221, nL500, nL999, nL1000, nL10000, nL100000]
  exact h
theorem n_all1 (hI : invT Aq) (hz : repM Aq fq) : pwX so 153 0 [some (.ref aq), some (.int (zN 1)), none, none] [] g (mkA aq 221 fq w) = some (.inl (some (.int (zN (aCr Aq)))), g, (mkA aq 221 fq w)) := by
  have h := @n_all4 so g aq w Aq fq 1 (by omega) hI hz (tN Aq 0) 0 (by omega)
  simp (disch := omega) only [s_X8_all_0, s_X8_all_1, s_X8_all_2, s_X8_all_3, zN_neg1, nL0, nL1, nL2, nL3, nL4, nL5, nL6, nL7, nL8, nL9, nL10, nL11, nL12, nL13, nL14, nL20, nL21, nL22, nL23, nL25, nL32, nL33, nL39, nL40, nL43, nL44, nL99, nL100, nL120, nL216, nL217, nL218, nL219, nL220, nL221, nL500, nL999, nL1000, nL10000, nL100000]
  exact h
theorem e_78 : ∃ f7 f8 : Nat → Int32, mkM bq sc Rq w = mkM bq sc (va_up (va_up Rq 7 f7) 8 f8) w := by
  refine ⟨Rq 7, Rq 8, ?_⟩
  have h : va_up (va_up Rq 7 (Rq 7)) 8 (Rq 8) = Rq := by
    funext jq; unfold va_up; split
    · next h => rw [h]
    · split
      · next h => rw [h]
      · rfl
  rw [h]
theorem e_7 {f7 : Nat → Int32} : mkM bq sc (va_up Rq 7 f7) w = mkM bq sc (va_up (va_up Rq 7 f7) 8 (Rq 8)) w := by
  have h : va_up (va_up Rq 7 f7) 8 (Rq 8) = va_up Rq 7 f7 := by
    funext jq
    by_cases hx : jq = 8
    · subst hx; rw [va_up_self, va_up_ne _ _ (by decide)]
    · rw [va_up_ne _ _ hx]
  rw [h]
theorem n_told {wq : Nat} (h1 : 1 ≤ jr) (h3 : jr ≤ 3) (hI : invT Aq) (hz : repM Aq (Rq jr)) (hw : wq ≤ 12) : ∃ f7 f8 : Nat → Int32, pwX so 154 0 [some (.ref bq), some (.ref (bq + jr)), some (.int (zN wq))] [] g (mkM bq sc Rq w) = some (.inl (some (.int (aTold Aq wq))), g, (mkM bq sc (va_up (va_up Rq 7 f7) 8 f8) w)) := by
  obtain ⟨m0, m43, m216, m217, m218, m219, m220⟩ := hz.1
  have m21 := hz.2.2.1.1
  have m32 := hz.2.2.2.1.1
  have b4 := @n_all0 so g (bq + jr) (mkM bq sc Rq w) Aq (Rq jr) hI hz
  have b5 := @n_all1 so g (bq + jr) (mkM bq sc Rq w) Aq (Rq jr) hI hz
  rw [mr_in h1 h3] at b4 b5
  have ld : ∀ {iq : Nat} {iz : Int32 → Option pwO}, iq < 221 → (pwLd (mkM bq sc Rq w) (bq + jr) (zN iq)).bind iz = iz (Rq jr iq) := fun hi => mm_ld h1 (by omega) (by omega) (ms3 h3).symm hi
  have keep : ∀ (vz : Int32), pwX so 154 0 [some (.ref bq), some (.ref (bq + jr)), some (.int (zN wq))] [] g (mkM bq sc Rq w) = some (.inl (some (.int (vz))), g, (mkM bq sc Rq w)) → ∃ f7 f8 : Nat → Int32, pwX so 154 0 [some (.ref bq), some (.ref (bq + jr)), some (.int (zN wq))] [] g (mkM bq sc Rq w) = some (.inl (some (.int (vz))), g, (mkM bq sc (va_up (va_up Rq 7 f7) 8 f8) w)) := fun vz h => by
    obtain ⟨f7, f8, e⟩ := @e_78 bq w sc Rq
    exact ⟨f7, f8, by rw [← e]; exact h⟩
  have keep7 : ∀ (vz : Int32) (f7 : Nat → Int32), pwX so 154 0 [some (.ref bq), some (.ref (bq + jr)), some (.int (zN wq))] [] g (mkM bq sc Rq w) = some (.inl (some (.int (vz))), g, (mkM bq sc (va_up Rq 7 f7) w)) → ∃ f7 f8 : Nat → Int32, pwX so 154 0 [some (.ref bq), some (.ref (bq + jr)), some (.int (zN wq))] [] g (mkM bq sc Rq w) = some (.inl (some (.int (vz))), g, (mkM bq sc (va_up (va_up Rq 7 f7) 8 f8) w)) := fun vz f7 h => ⟨f7, Rq 8, by rw [← e_7]; exact h⟩
  have hc : wq = 0 ∨ wq = 1 ∨ wq = 2 ∨ wq = 3 ∨ wq = 4 ∨ wq = 5 ∨ wq = 6 ∨ wq = 11 ∨ wq = 12 ∨ wq = 7 ∨ wq = 8 ∨ wq = 9 ∨ wq = 10 := by omega
  rcases hc with rfl | rfl | rfl | rfl | rfl | rfl | rfl | rfl | rfl | rfl | rfl | rfl | rfl
  · exact keep _ (by simp (disch := omega) only [s_X8_told_0, s_X8_told_1, s_X8_told_64, s_X8_told_65, s_X8_told_66, s_X8_told_67, s_X8_told_68, s_X8_told_69, s_X8_told_71, s_X8_told_72, s_X8_told_73, s_X8_told_74, s_X8_told_77, s_X8_told_78, s_X8_told_79, s_X8_told_80, s_X8_told_82, s_X8_told_83, s_X8_told_84, s_X8_told_85, s_X8_told_86, s_X8_told_89, s_X8_told_90, s_X8_told_91, s_X8_told_92, s_X8_told_95, s_X8_told_96, s_X8_told_97, s_X8_told_99, s_X8_told_100, s_X8_told_101, s_X8_told_102, s_X8_told_103, s_X8_told_106, s_X8_told_107, s_X8_told_108, s_X8_told_109, s_X8_told_112, s_X8_told_113, s_X8_told_114, s_X8_told_115, s_X8_told_118, s_X8_told_119, s_X8_told_120, s_X8_told_121, s_X8_told_124, s_X8_told_125, s_X8_told_126, s_X8_told_129, s_X8_told_130, s_X8_told_131, s_X8_told_132, s_X8_told_135, s_X8_told_136, zN_neg1, nL0, nL1, nL2, nL3, nL4, nL5, nL6, nL7, nL8, nL9, nL10, nL11, nL12, nL13, nL14, nL20, nL21, nL22, nL23, nL25, nL32, nL33, nL39, nL40, nL43, nL44, nL99, nL100, nL120, nL216, nL217, nL218, nL219, nL220, nL221, nL500, nL999, nL1000, nL10000, nL100000, sh33, zN_lt, zN_le, zN_eq, zN_ge0, zN_lt0, zN_nm, zN_mn, zN_mlt, zN_ltm, zN_lem, zN_mle, zN_m1, zN_m2, zN_addm, zN_ofNat, zN_beq, zN_add, zN_sub, zN_mul, zN_rem, qT_lt, qF_lt, qT_le, qF_le, qT_eq, qF_eq, ↓reduceIte, and_true, true_and, false_and, and_false, not_true_eq_false, not_false_eq_true, decide_true, decide_false, Bool.true_or, Bool.or_true, Bool.false_or, Bool.or_false, cond_true, cond_false, pwSwt, ↓ld, m0, aTold])
  · exact keep _ (by simp (disch := omega) only [s_X8_told_0, s_X8_told_1, s_X8_told_64, s_X8_told_65, s_X8_told_66, s_X8_told_67, s_X8_told_68, s_X8_told_69, s_X8_told_71, s_X8_told_72, s_X8_told_73, s_X8_told_74, s_X8_told_77, s_X8_told_78, s_X8_told_79, s_X8_told_80, s_X8_told_82, s_X8_told_83, s_X8_told_84, s_X8_told_85, s_X8_told_86, s_X8_told_89, s_X8_told_90, s_X8_told_91, s_X8_told_92, s_X8_told_95, s_X8_told_96, s_X8_told_97, s_X8_told_99, s_X8_told_100, s_X8_told_101, s_X8_told_102, s_X8_told_103, s_X8_told_106, s_X8_told_107, s_X8_told_108, s_X8_told_109, s_X8_told_112, s_X8_told_113, s_X8_told_114, s_X8_told_115, s_X8_told_118, s_X8_told_119, s_X8_told_120, s_X8_told_121, s_X8_told_124, s_X8_told_125, s_X8_told_126, s_X8_told_129, s_X8_told_130, s_X8_told_131, s_X8_told_132, s_X8_told_135, s_X8_told_136, zN_neg1, nL0, nL1, nL2, nL3, nL4, nL5, nL6, nL7, nL8, nL9, nL10, nL11, nL12, nL13, nL14, nL20, nL21, nL22, nL23, nL25, nL32, nL33, nL39, nL40, nL43, nL44, nL99, nL100, nL120, nL216, nL217, nL218, nL219, nL220, nL221, nL500, nL999, nL1000, nL10000, nL100000, sh33, zN_lt, zN_le, zN_eq, zN_ge0, zN_lt0, zN_nm, zN_mn, zN_mlt, zN_ltm, zN_lem, zN_mle, zN_m1, zN_m2, zN_addm, zN_ofNat, zN_beq, zN_add, zN_sub, zN_mul, zN_rem, qT_lt, qF_lt, qT_le, qF_le, qT_eq, qF_eq, ↓reduceIte, and_true, true_and, false_and, and_false, not_true_eq_false, not_false_eq_true, decide_true, decide_false, Bool.true_or, Bool.or_true, Bool.false_or, Bool.or_false, cond_true, cond_false, pwSwt, ↓ld, m43, aTold])
  · exact keep _ (by simp (disch := omega) only [s_X8_told_0, s_X8_told_1, s_X8_told_64, s_X8_told_65, s_X8_told_66, s_X8_told_67, s_X8_told_68, s_X8_told_69, s_X8_told_71, s_X8_told_72, s_X8_told_73, s_X8_told_74, s_X8_told_77, s_X8_told_78, s_X8_told_79, s_X8_told_80, s_X8_told_82, s_X8_told_83, s_X8_told_84, s_X8_told_85, s_X8_told_86, s_X8_told_89, s_X8_told_90, s_X8_told_91, s_X8_told_92, s_X8_told_95, s_X8_told_96, s_X8_told_97, s_X8_told_99, s_X8_told_100, s_X8_told_101, s_X8_told_102, s_X8_told_103, s_X8_told_106, s_X8_told_107, s_X8_told_108, s_X8_told_109, s_X8_told_112, s_X8_told_113, s_X8_told_114, s_X8_told_115, s_X8_told_118, s_X8_told_119, s_X8_told_120, s_X8_told_121, s_X8_told_124, s_X8_told_125, s_X8_told_126, s_X8_told_129, s_X8_told_130, s_X8_told_131, s_X8_told_132, s_X8_told_135, s_X8_told_136, zN_neg1, nL0, nL1, nL2, nL3, nL4, nL5, nL6, nL7, nL8, nL9, nL10, nL11, nL12, nL13, nL14, nL20, nL21, nL22, nL23, nL25, nL32, nL33, nL39, nL40, nL43, nL44, nL99, nL100, nL120, nL216, nL217, nL218, nL219, nL220, nL221, nL500, nL999, nL1000, nL10000, nL100000, sh33, zN_lt, zN_le, zN_eq, zN_ge0, zN_lt0, zN_nm, zN_mn, zN_mlt, zN_ltm, zN_lem, zN_mle, zN_m1, zN_m2, zN_addm, zN_ofNat, zN_beq, zN_add, zN_sub, zN_mul, zN_rem, qT_lt, qF_lt, qT_le, qF_le, qT_eq, qF_eq, ↓reduceIte, and_true, true_and, false_and, and_false, not_true_eq_false, not_false_eq_true, decide_true, decide_false, Bool.true_or, Bool.or_true, Bool.false_or, Bool.or_false, cond_true, cond_false, pwSwt, ↓ld, m218, aTold])
  · exact keep _ (by simp (disch := omega) only [s_X8_told_0, s_X8_told_1, s_X8_told_64, s_X8_told_65, s_X8_told_66, s_X8_told_67, s_X8_told_68, s_X8_told_69, s_X8_told_71, s_X8_told_72, s_X8_told_73, s_X8_told_74, s_X8_told_77, s_X8_told_78, s_X8_told_79, s_X8_told_80, s_X8_told_82, s_X8_told_83, s_X8_told_84, s_X8_told_85, s_X8_told_86, s_X8_told_89, s_X8_told_90, s_X8_told_91, s_X8_told_92, s_X8_told_95, s_X8_told_96, s_X8_told_97, s_X8_told_99, s_X8_told_100, s_X8_told_101, s_X8_told_102, s_X8_told_103, s_X8_told_106, s_X8_told_107, s_X8_told_108, s_X8_told_109, s_X8_told_112, s_X8_told_113, s_X8_told_114, s_X8_told_115, s_X8_told_118, s_X8_told_119, s_X8_told_120, s_X8_told_121, s_X8_told_124, s_X8_told_125, s_X8_told_126, s_X8_told_129, s_X8_told_130, s_X8_told_131, s_X8_told_132, s_X8_told_135, s_X8_told_136, zN_neg1, nL0, nL1, nL2, nL3, nL4, nL5, nL6, nL7, nL8, nL9, nL10, nL11, nL12, nL13, nL14, nL20, nL21, nL22, nL23, nL25, nL32, nL33, nL39, nL40, nL43, nL44, nL99, nL100, nL120, nL216, nL217, nL218, nL219, nL220, nL221, nL500, nL999, nL1000, nL10000, nL100000, sh33, zN_lt, zN_le, zN_eq, zN_ge0, zN_lt0, zN_nm, zN_mn, zN_mlt, zN_ltm, zN_lem, zN_mle, zN_m1, zN_m2, zN_addm, zN_ofNat, zN_beq, zN_add, zN_sub, zN_mul, zN_rem, qT_lt, qF_lt, qT_le, qF_le, qT_eq, qF_eq, ↓reduceIte, and_true, true_and, false_and, and_false, not_true_eq_false, not_false_eq_true, decide_true, decide_false, Bool.true_or, Bool.or_true, Bool.false_or, Bool.or_false, cond_true, cond_false, pwSwt, ↓ld, m21, aTold])
  · exact keep _ (by simp (disch := omega) only [s_X8_told_0, s_X8_told_1, s_X8_told_64, s_X8_told_65, s_X8_told_66, s_X8_told_67, s_X8_told_68, s_X8_told_69, s_X8_told_71, s_X8_told_72, s_X8_told_73, s_X8_told_74, s_X8_told_77, s_X8_told_78, s_X8_told_79, s_X8_told_80, s_X8_told_82, s_X8_told_83, s_X8_told_84, s_X8_told_85, s_X8_told_86, s_X8_told_89, s_X8_told_90, s_X8_told_91, s_X8_told_92, s_X8_told_95, s_X8_told_96, s_X8_told_97, s_X8_told_99, s_X8_told_100, s_X8_told_101, s_X8_told_102, s_X8_told_103, s_X8_told_106, s_X8_told_107, s_X8_told_108, s_X8_told_109, s_X8_told_112, s_X8_told_113, s_X8_told_114, s_X8_told_115, s_X8_told_118, s_X8_told_119, s_X8_told_120, s_X8_told_121, s_X8_told_124, s_X8_told_125, s_X8_told_126, s_X8_told_129, s_X8_told_130, s_X8_told_131, s_X8_told_132, s_X8_told_135, s_X8_told_136, zN_neg1, nL0, nL1, nL2, nL3, nL4, nL5, nL6, nL7, nL8, nL9, nL10, nL11, nL12, nL13, nL14, nL20, nL21, nL22, nL23, nL25, nL32, nL33, nL39, nL40, nL43, nL44, nL99, nL100, nL120, nL216, nL217, nL218, nL219, nL220, nL221, nL500, nL999, nL1000, nL10000, nL100000, sh33, zN_lt, zN_le, zN_eq, zN_ge0, zN_lt0, zN_nm, zN_mn, zN_mlt, zN_ltm, zN_lem, zN_mle, zN_m1, zN_m2, zN_addm, zN_ofNat, zN_beq, zN_add, zN_sub, zN_mul, zN_rem, qT_lt, qF_lt, qT_le, qF_le, qT_eq, qF_eq, ↓reduceIte, and_true, true_and, false_and, and_false, not_true_eq_false, not_false_eq_true, decide_true, decide_false, Bool.true_or, Bool.or_true, Bool.false_or, Bool.or_false, cond_true, cond_false, pwSwt, qAv, b4, aTold])
  · exact keep _ (by simp (disch := omega) only [s_X8_told_0, s_X8_told_1, s_X8_told_64, s_X8_told_65, s_X8_told_66, s_X8_told_67, s_X8_told_68, s_X8_told_69, s_X8_told_71, s_X8_told_72, s_X8_told_73, s_X8_told_74, s_X8_told_77, s_X8_told_78, s_X8_told_79, s_X8_told_80, s_X8_told_82, s_X8_told_83, s_X8_told_84, s_X8_told_85, s_X8_told_86, s_X8_told_89, s_X8_told_90, s_X8_told_91, s_X8_told_92, s_X8_told_95, s_X8_told_96, s_X8_told_97, s_X8_told_99, s_X8_told_100, s_X8_told_101, s_X8_told_102, s_X8_told_103, s_X8_told_106, s_X8_told_107, s_X8_told_108, s_X8_told_109, s_X8_told_112, s_X8_told_113, s_X8_told_114, s_X8_told_115, s_X8_told_118, s_X8_told_119, s_X8_told_120, s_X8_told_121, s_X8_told_124, s_X8_told_125, s_X8_told_126, s_X8_told_129, s_X8_told_130, s_X8_told_131, s_X8_told_132, s_X8_told_135, s_X8_told_136, zN_neg1, nL0, nL1, nL2, nL3, nL4, nL5, nL6, nL7, nL8, nL9, nL10, nL11, nL12, nL13, nL14, nL20, nL21, nL22, nL23, nL25, nL32, nL33, nL39, nL40, nL43, nL44, nL99, nL100, nL120, nL216, nL217, nL218, nL219, nL220, nL221, nL500, nL999, nL1000, nL10000, nL100000, sh33, zN_lt, zN_le, zN_eq, zN_ge0, zN_lt0, zN_nm, zN_mn, zN_mlt, zN_ltm, zN_lem, zN_mle, zN_m1, zN_m2, zN_addm, zN_ofNat, zN_beq, zN_add, zN_sub, zN_mul, zN_rem, qT_lt, qF_lt, qT_le, qF_le, qT_eq, qF_eq, ↓reduceIte, and_true, true_and, false_and, and_false, not_true_eq_false, not_false_eq_true, decide_true, decide_false, Bool.true_or, Bool.or_true, Bool.false_or, Bool.or_false, cond_true, cond_false, pwSwt, qAv, b5, aTold])
  · exact keep _ (by simp (disch := omega) only [s_X8_told_0, s_X8_told_1, s_X8_told_64, s_X8_told_65, s_X8_told_66, s_X8_told_67, s_X8_told_68, s_X8_told_69, s_X8_told_71, s_X8_told_72, s_X8_told_73, s_X8_told_74, s_X8_told_77, s_X8_told_78, s_X8_told_79, s_X8_told_80, s_X8_told_82, s_X8_told_83, s_X8_told_84, s_X8_told_85, s_X8_told_86, s_X8_told_89, s_X8_told_90, s_X8_told_91, s_X8_told_92, s_X8_told_95, s_X8_told_96, s_X8_told_97, s_X8_told_99, s_X8_told_100, s_X8_told_101, s_X8_told_102, s_X8_told_103, s_X8_told_106, s_X8_told_107, s_X8_told_108, s_X8_told_109, s_X8_told_112, s_X8_told_113, s_X8_told_114, s_X8_told_115, s_X8_told_118, s_X8_told_119, s_X8_told_120, s_X8_told_121, s_X8_told_124, s_X8_told_125, s_X8_told_126, s_X8_told_129, s_X8_told_130, s_X8_told_131, s_X8_told_132, s_X8_told_135, s_X8_told_136, zN_neg1, nL0, nL1, nL2, nL3, nL4, nL5, nL6, nL7, nL8, nL9, nL10, nL11, nL12, nL13, nL14, nL20, nL21, nL22, nL23, nL25, nL32, nL33, nL39, nL40, nL43, nL44, nL99, nL100, nL120, nL216, nL217, nL218, nL219, nL220, nL221, nL500, nL999, nL1000, nL10000, nL100000, sh33, zN_lt, zN_le, zN_eq, zN_ge0, zN_lt0, zN_nm, zN_mn, zN_mlt, zN_ltm, zN_lem, zN_mle, zN_m1, zN_m2, zN_addm, zN_ofNat, zN_beq, zN_add, zN_sub, zN_mul, zN_rem, qT_lt, qF_lt, qT_le, qF_le, qT_eq, qF_eq, ↓reduceIte, and_true, true_and, false_and, and_false, not_true_eq_false, not_false_eq_true, decide_true, decide_false, Bool.true_or, Bool.or_true, Bool.false_or, Bool.or_false, cond_true, cond_false, pwSwt, ↓ld, m32, aTold])
  · exact keep _ (by simp (disch := omega) only [s_X8_told_0, s_X8_told_1, s_X8_told_64, s_X8_told_65, s_X8_told_66, s_X8_told_67, s_X8_told_68, s_X8_told_69, s_X8_told_71, s_X8_told_72, s_X8_told_73, s_X8_told_74, s_X8_told_77, s_X8_told_78, s_X8_told_79, s_X8_told_80, s_X8_told_82, s_X8_told_83, s_X8_told_84, s_X8_told_85, s_X8_told_86, s_X8_told_89, s_X8_told_90, s_X8_told_91, s_X8_told_92, s_X8_told_95, s_X8_told_96, s_X8_told_97, s_X8_told_99, s_X8_told_100, s_X8_told_101, s_X8_told_102, s_X8_told_103, s_X8_told_106, s_X8_told_107, s_X8_told_108, s_X8_told_109, s_X8_told_112, s_X8_told_113, s_X8_told_114, s_X8_told_115, s_X8_told_118, s_X8_told_119, s_X8_told_120, s_X8_told_121, s_X8_told_124, s_X8_told_125, s_X8_told_126, s_X8_told_129, s_X8_told_130, s_X8_told_131, s_X8_told_132, s_X8_told_135, s_X8_told_136, zN_neg1, nL0, nL1, nL2, nL3, nL4, nL5, nL6, nL7, nL8, nL9, nL10, nL11, nL12, nL13, nL14, nL20, nL21, nL22, nL23, nL25, nL32, nL33, nL39, nL40, nL43, nL44, nL99, nL100, nL120, nL216, nL217, nL218, nL219, nL220, nL221, nL500, nL999, nL1000, nL10000, nL100000, sh33, zN_lt, zN_le, zN_eq, zN_ge0, zN_lt0, zN_nm, zN_mn, zN_mlt, zN_ltm, zN_lem, zN_mle, zN_m1, zN_m2, zN_addm, zN_ofNat, zN_beq, zN_add, zN_sub, zN_mul, zN_rem, qT_lt, qF_lt, qT_le, qF_le, qT_eq, qF_eq, ↓reduceIte, and_true, true_and, false_and, and_false, not_true_eq_false, not_false_eq_true, decide_true, decide_false, Bool.true_or, Bool.or_true, Bool.false_or, Bool.or_false, cond_true, cond_false, pwSwt, ↓ld, m216, aTold])
  · exact keep _ (by simp (disch := omega) only [s_X8_told_0, s_X8_told_1, s_X8_told_64, s_X8_told_65, s_X8_told_66, s_X8_told_67, s_X8_told_68, s_X8_told_69, s_X8_told_71, s_X8_told_72, s_X8_told_73, s_X8_told_74, s_X8_told_77, s_X8_told_78, s_X8_told_79, s_X8_told_80, s_X8_told_82, s_X8_told_83, s_X8_told_84, s_X8_told_85, s_X8_told_86, s_X8_told_89, s_X8_told_90, s_X8_told_91, s_X8_told_92, s_X8_told_95, s_X8_told_96, s_X8_told_97, s_X8_told_99, s_X8_told_100, s_X8_told_101, s_X8_told_102, s_X8_told_103, s_X8_told_106, s_X8_told_107, s_X8_told_108, s_X8_told_109, s_X8_told_112, s_X8_told_113, s_X8_told_114, s_X8_told_115, s_X8_told_118, s_X8_told_119, s_X8_told_120, s_X8_told_121, s_X8_told_124, s_X8_told_125, s_X8_told_126, s_X8_told_129, s_X8_told_130, s_X8_told_131, s_X8_told_132, s_X8_told_135, s_X8_told_136, zN_neg1, nL0, nL1, nL2, nL3, nL4, nL5, nL6, nL7, nL8, nL9, nL10, nL11, nL12, nL13, nL14, nL20, nL21, nL22, nL23, nL25, nL32, nL33, nL39, nL40, nL43, nL44, nL99, nL100, nL120, nL216, nL217, nL218, nL219, nL220, nL221, nL500, nL999, nL1000, nL10000, nL100000, sh33, zN_lt, zN_le, zN_eq, zN_ge0, zN_lt0, zN_nm, zN_mn, zN_mlt, zN_ltm, zN_lem, zN_mle, zN_m1, zN_m2, zN_addm, zN_ofNat, zN_beq, zN_add, zN_sub, zN_mul, zN_rem, qT_lt, qF_lt, qT_le, qF_le, qT_eq, qF_eq, ↓reduceIte, and_true, true_and, false_and, and_false, not_true_eq_false, not_false_eq_true, decide_true, decide_false, Bool.true_or, Bool.or_true, Bool.false_or, Bool.or_false, cond_true, cond_false, pwSwt, ↓ld, m217, aTold])
  · obtain ⟨f7, a1⟩ := @n_wrong so g bq jr sc Rq w Aq h1 h3 hI hz
    exact keep7 _ f7 (by simp (disch := omega) only [s_X8_told_0, s_X8_told_1, s_X8_told_64, s_X8_told_65, s_X8_told_66, s_X8_told_67, s_X8_told_68, s_X8_told_69, s_X8_told_71, s_X8_told_72, s_X8_told_73, s_X8_told_74, s_X8_told_77, s_X8_told_78, s_X8_told_79, s_X8_told_80, s_X8_told_82, s_X8_told_83, s_X8_told_84, s_X8_told_85, s_X8_told_86, s_X8_told_89, s_X8_told_90, s_X8_told_91, s_X8_told_92, s_X8_told_95, s_X8_told_96, s_X8_told_97, s_X8_told_99, s_X8_told_100, s_X8_told_101, s_X8_told_102, s_X8_told_103, s_X8_told_106, s_X8_told_107, s_X8_told_108, s_X8_told_109, s_X8_told_112, s_X8_told_113, s_X8_told_114, s_X8_told_115, s_X8_told_118, s_X8_told_119, s_X8_told_120, s_X8_told_121, s_X8_told_124, s_X8_told_125, s_X8_told_126, s_X8_told_129, s_X8_told_130, s_X8_told_131, s_X8_told_132, s_X8_told_135, s_X8_told_136, zN_neg1, nL0, nL1, nL2, nL3, nL4, nL5, nL6, nL7, nL8, nL9, nL10, nL11, nL12, nL13, nL14, nL20, nL21, nL22, nL23, nL25, nL32, nL33, nL39, nL40, nL43, nL44, nL99, nL100, nL120, nL216, nL217, nL218, nL219, nL220, nL221, nL500, nL999, nL1000, nL10000, nL100000, sh33, zN_lt, zN_le, zN_eq, zN_ge0, zN_lt0, zN_nm, zN_mn, zN_mlt, zN_ltm, zN_lem, zN_mle, zN_m1, zN_m2, zN_addm, zN_ofNat, zN_beq, zN_add, zN_sub, zN_mul, zN_rem, qT_lt, qF_lt, qT_le, qF_le, qT_eq, qF_eq, ↓reduceIte, and_true, true_and, false_and, and_false, not_true_eq_false, not_false_eq_true, decide_true, decide_false, Bool.true_or, Bool.or_true, Bool.false_or, Bool.or_false, cond_true, cond_false, pwSwt, mm_i, cond_true, qAv, a1, aTold])
  · obtain ⟨f7, f8, a1⟩ := @n_longest so g bq jr sc Rq w Aq h1 h3 hI hz
    exact ⟨f7, f8, by simp (disch := omega) only [s_X8_told_0, s_X8_told_1, s_X8_told_64, s_X8_told_65, s_X8_told_66, s_X8_told_67, s_X8_told_68, s_X8_told_69, s_X8_told_71, s_X8_told_72, s_X8_told_73, s_X8_told_74, s_X8_told_77, s_X8_told_78, s_X8_told_79, s_X8_told_80, s_X8_told_82, s_X8_told_83, s_X8_told_84, s_X8_told_85, s_X8_told_86, s_X8_told_89, s_X8_told_90, s_X8_told_91, s_X8_told_92, s_X8_told_95, s_X8_told_96, s_X8_told_97, s_X8_told_99, s_X8_told_100, s_X8_told_101, s_X8_told_102, s_X8_told_103, s_X8_told_106, s_X8_told_107, s_X8_told_108, s_X8_told_109, s_X8_told_112, s_X8_told_113, s_X8_told_114, s_X8_told_115, s_X8_told_118, s_X8_told_119, s_X8_told_120, s_X8_told_121, s_X8_told_124, s_X8_told_125, s_X8_told_126, s_X8_told_129, s_X8_told_130, s_X8_told_131, s_X8_told_132, s_X8_told_135, s_X8_told_136, zN_neg1, nL0, nL1, nL2, nL3, nL4, nL5, nL6, nL7, nL8, nL9, nL10, nL11, nL12, nL13, nL14, nL20, nL21, nL22, nL23, nL25, nL32, nL33, nL39, nL40, nL43, nL44, nL99, nL100, nL120, nL216, nL217, nL218, nL219, nL220, nL221, nL500, nL999, nL1000, nL10000, nL100000, sh33, zN_lt, zN_le, zN_eq, zN_ge0, zN_lt0, zN_nm, zN_mn, zN_mlt, zN_ltm, zN_lem, zN_mle, zN_m1, zN_m2, zN_addm, zN_ofNat, zN_beq, zN_add, zN_sub, zN_mul, zN_rem, qT_lt, qF_lt, qT_le, qF_le, qT_eq, qF_eq, ↓reduceIte, and_true, true_and, false_and, and_false, not_true_eq_false, not_false_eq_true, decide_true, decide_false, Bool.true_or, Bool.or_true, Bool.false_or, Bool.or_false, cond_true, cond_false, pwSwt, mm_i, cond_true, qAv, a1, aTold]⟩
  · obtain ⟨f7, a1⟩ := @n_right so g bq jr sc Rq w Aq h1 h3 hI hz
    exact keep7 _ f7 (by simp (disch := omega) only [s_X8_told_0, s_X8_told_1, s_X8_told_64, s_X8_told_65, s_X8_told_66, s_X8_told_67, s_X8_told_68, s_X8_told_69, s_X8_told_71, s_X8_told_72, s_X8_told_73, s_X8_told_74, s_X8_told_77, s_X8_told_78, s_X8_told_79, s_X8_told_80, s_X8_told_82, s_X8_told_83, s_X8_told_84, s_X8_told_85, s_X8_told_86, s_X8_told_89, s_X8_told_90, s_X8_told_91, s_X8_told_92, s_X8_told_95, s_X8_told_96, s_X8_told_97, s_X8_told_99, s_X8_told_100, s_X8_told_101, s_X8_told_102, s_X8_told_103, s_X8_told_106, s_X8_told_107, s_X8_told_108, s_X8_told_109, s_X8_told_112, s_X8_told_113, s_X8_told_114, s_X8_told_115, s_X8_told_118, s_X8_told_119, s_X8_told_120, s_X8_told_121, s_X8_told_124, s_X8_told_125, s_X8_told_126, s_X8_told_129, s_X8_told_130, s_X8_told_131, s_X8_told_132, s_X8_told_135, s_X8_told_136, zN_neg1, nL0, nL1, nL2, nL3, nL4, nL5, nL6, nL7, nL8, nL9, nL10, nL11, nL12, nL13, nL14, nL20, nL21, nL22, nL23, nL25, nL32, nL33, nL39, nL40, nL43, nL44, nL99, nL100, nL120, nL216, nL217, nL218, nL219, nL220, nL221, nL500, nL999, nL1000, nL10000, nL100000, sh33, zN_lt, zN_le, zN_eq, zN_ge0, zN_lt0, zN_nm, zN_mn, zN_mlt, zN_ltm, zN_lem, zN_mle, zN_m1, zN_m2, zN_addm, zN_ofNat, zN_beq, zN_add, zN_sub, zN_mul, zN_rem, qT_lt, qF_lt, qT_le, qF_le, qT_eq, qF_eq, ↓reduceIte, and_true, true_and, false_and, and_false, not_true_eq_false, not_false_eq_true, decide_true, decide_false, Bool.true_or, Bool.or_true, Bool.false_or, Bool.or_false, cond_true, cond_false, pwSwt, mm_i, cond_true, qAv, a1, aTold])
  · obtain ⟨f7, a1⟩ := @n_exch so g bq jr sc Rq w Aq h1 h3 hI hz
    exact keep7 _ f7 (by simp (disch := omega) only [s_X8_told_0, s_X8_told_1, s_X8_told_64, s_X8_told_65, s_X8_told_66, s_X8_told_67, s_X8_told_68, s_X8_told_69, s_X8_told_71, s_X8_told_72, s_X8_told_73, s_X8_told_74, s_X8_told_77, s_X8_told_78, s_X8_told_79, s_X8_told_80, s_X8_told_82, s_X8_told_83, s_X8_told_84, s_X8_told_85, s_X8_told_86, s_X8_told_89, s_X8_told_90, s_X8_told_91, s_X8_told_92, s_X8_told_95, s_X8_told_96, s_X8_told_97, s_X8_told_99, s_X8_told_100, s_X8_told_101, s_X8_told_102, s_X8_told_103, s_X8_told_106, s_X8_told_107, s_X8_told_108, s_X8_told_109, s_X8_told_112, s_X8_told_113, s_X8_told_114, s_X8_told_115, s_X8_told_118, s_X8_told_119, s_X8_told_120, s_X8_told_121, s_X8_told_124, s_X8_told_125, s_X8_told_126, s_X8_told_129, s_X8_told_130, s_X8_told_131, s_X8_told_132, s_X8_told_135, s_X8_told_136, zN_neg1, nL0, nL1, nL2, nL3, nL4, nL5, nL6, nL7, nL8, nL9, nL10, nL11, nL12, nL13, nL14, nL20, nL21, nL22, nL23, nL25, nL32, nL33, nL39, nL40, nL43, nL44, nL99, nL100, nL120, nL216, nL217, nL218, nL219, nL220, nL221, nL500, nL999, nL1000, nL10000, nL100000, sh33, zN_lt, zN_le, zN_eq, zN_ge0, zN_lt0, zN_nm, zN_mn, zN_mlt, zN_ltm, zN_lem, zN_mle, zN_m1, zN_m2, zN_addm, zN_ofNat, zN_beq, zN_add, zN_sub, zN_mul, zN_rem, qT_lt, qF_lt, qT_le, qF_le, qT_eq, qF_eq, ↓reduceIte, and_true, true_and, false_and, and_false, not_true_eq_false, not_false_eq_true, decide_true, decide_false, Bool.true_or, Bool.or_true, Bool.false_or, Bool.or_false, cond_true, cond_false, pwSwt, mm_i, cond_true, qAv, a1, aTold])
/-- equal below 221 is all that counts -/
theorem repM_cong (hI : invT Aq) (hz : repM Aq fq) (he : ∀ iq, iq < 221 → hq iq = fq iq) : repM Aq hq := by
  have h4 := hI.1
  have hcl := come_len hI
  have hsp := len_split hI (Nat.zero_le _)
  have hD : (fDn Aq 0).length = (tL Aq 1).length := by unfold fDn; rw [List.length_map]
  obtain ⟨⟨m0, m43, m216, m217, m218, m219, m220⟩, mk, ⟨m21, mst⟩, ⟨m32, mco⟩, ms⟩ := hz
  refine ⟨⟨?_, ?_, ?_, ?_, ?_, ?_, ?_⟩, fun k9 hk9 => ?_, ⟨?_, lsM_eq mst fun jz hj => he _ (by omega)⟩, ⟨?_, lsM_eq mco fun jz hj => he _ (by omega)⟩, fun s2 hs2 => ?_⟩
  · rw [he _ (by omega)]; exact m0
  · rw [he _ (by omega)]; exact m43
  · rw [he _ (by omega)]; exact m216
  · rw [he _ (by omega)]; exact m217
  · rw [he _ (by omega)]; exact m218
  · rw [he _ (by omega)]; exact m219
  · rw [he _ (by omega)]; exact m220
  · rw [he _ (by omega), he _ (by omega)]; exact mk k9 hk9
  · rw [he _ (by omega)]; exact m21
  · rw [he _ (by omega)]; exact m32
  · obtain ⟨⟨⟨j1, j2⟩, ⟨j3, j4⟩, j5, j6, j7, j8⟩, j9, j10, j11⟩ := hI.2.2 s2 hs2
    have hrd2 := (rd_le hI hs2).1
    exact repMs_eq (Bq := Aq) (ms s2 hs2) rfl rfl rfl (by omega) (by omega) (fun jq hj => he _ (by omega)) (fun cq hc => by rw [he _ (by omega)]; exact (ms s2 hs2).2.2.2 cq hc)
def cpF (fq hq : Nat → Int32) (nq : Nat) : Nat → Int32 := fun iq => if iq < nq then fq iq else hq iq
theorem cpF_s {nq : Nat} {fq hq : Nat → Int32} : upd (cpF fq hq nq) nq (fq nq) = cpF fq hq (nq + 1) := by
  funext iq; unfold upd cpF
  by_cases h : iq = nq
  · subst h; rw [if_pos rfl, if_pos (by omega)]
  · rw [if_neg h]
    by_cases h2 : iq < nq
    · rw [if_pos h2, if_pos (by omega)]
    · rw [if_neg h2, if_neg (by omega)]
theorem cpF_0 {fq hq : Nat → Int32} : cpF fq hq 0 = hq := by funext iq; exact if_neg (Nat.not_lt_zero _)
theorem cpF_i {nq iq : Nat} {fq hq : Nat → Int32} (h : iq < nq) : cpF fq hq nq iq = fq iq := if_pos h
theorem n_copy2 {j2 : Nat} (h1 : 1 ≤ jr) (h3 : jr ≤ 3) (h12 : 1 ≤ j2) (h32 : j2 ≤ 3) (hne : jr ≠ j2) : ∀ dq iq, iq + dq = 221 → pwX so 136 2 [some (.ref (bq + jr)), some (.ref (bq + j2)), some (.int (zN iq))] [] g (mkM bq sc (va_up Rq j2 (cpF (Rq jr) (Rq j2) iq)) w) = some (.inl none, g, (mkM bq sc (va_up Rq j2 (cpF (Rq jr) (Rq j2) 221)) w)) := by
  have ld : ∀ {Rz : Nat → Nat → Int32} {iq : Nat} {iz : Int32 → Option pwO}, iq < 221 → (pwLd (mkM bq sc Rz w) (bq + jr) (zN iq)).bind iz = iz (Rz jr iq) := fun hi => mm_ld h1 (by omega) (by omega) (ms3 h3).symm hi
  have st : ∀ {Rz : Nat → Nat → Int32} {iq : Nat} {vq : Int32} {hz : pwW → Option pwO}, iq < 221 → (pwSt0 (mkM bq sc Rz w) (bq + j2) (zN iq) vq).bind hz = hz (mkM bq sc (va_up Rz j2 (upd (Rz j2) iq vq)) w) := fun hi => mm_st h12 (by omega) (by omega) (ms3 h32).symm hi
  intro dq
  induction dq with
  | zero =>
    intro iq e1
    have e1 : iq = 221 := by omega
    subst e1
    simp (disch := omega) only [s_X8_copy_0, s_X8_copy_1, s_X8_copy_2, s_X8_copy_3, s_X8_copy_6, s_X8_copy_9, s_X8_copy_10, s_X8_copy_11, s_X8_copy_12, s_X8_copy_13, s_X8_copy_14, s_X8_copy_15, s_X8_copy_18, s_X8_copy_21, zN_neg1, nL0, nL1, nL2, nL3, nL4, nL5, nL6, nL7, nL8, nL9, nL10, nL11, nL12, nL13, nL14, nL20, nL21, nL22, nL23, nL25, nL32, nL33, nL39, nL40, nL43, nL44, nL99, nL100, nL120, nL216, nL217, nL218, nL219, nL220, nL221, nL500, nL999, nL1000, nL10000, nL100000, sh33, zN_lt, zN_le, zN_eq, zN_ge0, zN_lt0, zN_nm, zN_mn, zN_mlt, zN_ltm, zN_lem, zN_mle, zN_m1, zN_m2, zN_addm, zN_ofNat, zN_beq, zN_add, zN_sub, zN_mul, zN_rem, qT_lt, qF_lt, qT_le, qF_le, qT_eq, qF_eq, ↓reduceIte, and_true, true_and, false_and, and_false, not_true_eq_false, not_false_eq_true, decide_true, decide_false, Bool.true_or, Bool.or_true, Bool.false_or, Bool.or_false, cond_true, cond_false]
  | succ dq ih =>
    intro iq e1
    have h5 := ih (iq + 1) (by omega)
    rw [s_X8_copy_2]
    simp (disch := omega) only [s_X8_copy_3, s_X8_copy_6, s_X8_copy_9, s_X8_copy_10, s_X8_copy_11, s_X8_copy_12, s_X8_copy_13, s_X8_copy_14, s_X8_copy_15, s_X8_copy_18, zN_neg1, nL0, nL1, nL2, nL3, nL4, nL5, nL6, nL7, nL8, nL9, nL10, nL11, nL12, nL13, nL14, nL20, nL21, nL22, nL23, nL25, nL32, nL33, nL39, nL40, nL43, nL44, nL99, nL100, nL120, nL216, nL217, nL218, nL219, nL220, nL221, nL500, nL999, nL1000, nL10000, nL100000, sh33, zN_lt, zN_le, zN_eq, zN_ge0, zN_lt0, zN_nm, zN_mn, zN_mlt, zN_ltm, zN_lem, zN_mle, zN_m1, zN_m2, zN_addm, zN_ofNat, zN_beq, zN_add, zN_sub, zN_mul, zN_rem, qT_lt, qF_lt, qT_le, qF_le, qT_eq, qF_eq, ↓reduceIte, and_true, true_and, false_and, and_false, not_true_eq_false, not_false_eq_true, decide_true, decide_false, Bool.true_or, Bool.or_true, Bool.false_or, Bool.or_false, cond_true, cond_false, ↓ld, ↓st, qV_n, qV_s, qV_vv, cpF_s]
    exact h5
theorem n_copy {j2 : Nat} (h1 : 1 ≤ jr) (h3 : jr ≤ 3) (h12 : 1 ≤ j2) (h32 : j2 ≤ 3) (hne : jr ≠ j2) (hI : invT Aq) (hz : repM Aq (Rq jr)) : ∃ f2, repM Aq f2 ∧ pwX so 136 0 [some (.ref (bq + jr)), some (.ref (bq + j2)), none] [] g (mkM bq sc Rq w) = some (.inl none, g, (mkM bq sc (va_up Rq j2 f2) w)) := by
  refine ⟨cpF (Rq jr) (Rq j2) 221, repM_cong hI hz (fun iq hi => cpF_i hi), ?_⟩
  have h := @n_copy2 so g bq jr w sc Rq j2 h1 h3 h12 h32 hne 221 0 (by omega)
  rw [cpF_0, show va_up Rq j2 (Rq j2) = Rq from funext fun jq => by unfold va_up; split <;> simp_all] at h
  simp (disch := omega) only [s_X8_copy_0, s_X8_copy_1, zN_neg1, nL0, nL1, nL2, nL3, nL4, nL5, nL6, nL7, nL8, nL9, nL10, nL11, nL12, nL13, nL14, nL20, nL21, nL22, nL23, nL25, nL32, nL33, nL39, nL40, nL43, nL44, nL99, nL100, nL120, nL216, nL217, nL218, nL219, nL220, nL221, nL500, nL999, nL1000, nL10000, nL100000]
  exact h
end QA

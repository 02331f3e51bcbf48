/-! the pure part: a tick of the model: pass(), setOut(), tick() -/
theorem mxC_t {e1 e2 : Nat × Nat} {es : List (Nat × Nat)} (h : e1.1 = e2.1 + 1 ∧ e2.2 < e1.2) : mxC (e1 :: e2 :: es) = (e1.1, e2.2) :: (e2.1, e1.2) :: es := if_pos h
theorem mxC_f {e1 e2 : Nat × Nat} {es : List (Nat × Nat)} (h : ¬ (e1.1 = e2.1 + 1 ∧ e2.2 < e1.2)) : mxC (e1 :: e2 :: es) = e1 :: mxC (e2 :: es) := if_neg h
section QA
variable {so : Nat → Nat} {g : pwG} {w : pwW} {aq nq sq Sq : Nat} {fq hq : Nat → Int32} {pq rq tq uq : Int32} {Aq Bq : TA} {xq : Int64}
theorem n_ps18 {ce : Nat} (hs : sq < 4) (hc : ce ≤ 20) : ∀ (dq : Nat) (rs ms : List (Nat × Nat)), dq < ce → cDown (dq + 1) rs → (∀ mq ∈ ms, dq < mq.1) → (∀ eq ∈ ms ++ rs, eq.2 < 10) → (∀ jq, jq < 20 → fq (44 + 43 * sq + 23 + jq) = oV (cO (ms ++ rs) jq)) → ∃ f1 : Nat → Int32, (∀ jq, jq < 44 + 43 * sq + 23 ∨ 44 + 43 * sq + 43 ≤ jq → f1 jq = fq jq) ∧ (∀ jq, jq < 20 → f1 (44 + 43 * sq + 23 + jq) = oV (cO (ms ++ mxC rs) jq)) ∧ pwX so 159 18 [some (.ref aq), some (.int (zN sq)), some (.int (zN (44 + 43 * sq))), some (.int (zN (44 + 43 * sq + 23 + dq))), none] [] g (mkA aq 221 fq w) = some (.inl none, g, (mkA aq 221 f1 w)) := by
  intro dq
  induction dq with
  | zero =>
    intro rs ms h1 h3 h5 h6 h7
    refine ⟨fq, fun _ _ => rfl, ?_, ?_⟩
    · cases rs with
      | nil => exact h7
      | cons e rs =>
        cases rs with
        | nil => exact h7
        | cons e2 rs =>
          have h8 := h3.1
          have h9 := h3.2.1
          omega
    · simp (disch := omega) only [s_X8_pass_0, s_X8_pass_1, s_X8_pass_4, s_X8_pass_5, s_X8_pass_6, s_X8_pass_8, s_X8_pass_9, s_X8_pass_10, s_X8_pass_11, s_X8_pass_12, s_X8_pass_13, s_X8_pass_14, s_X8_pass_15, s_X8_pass_16, s_X8_pass_17, s_X8_pass_18, s_X8_pass_19, s_X8_pass_20, s_X8_pass_22, s_X8_pass_23, s_X8_pass_26, s_X8_pass_27, s_X8_pass_28, s_X8_pass_29, s_X8_pass_30, s_X8_pass_33, s_X8_pass_34, s_X8_pass_35, s_X8_pass_36, s_X8_pass_37, s_X8_pass_38, s_X8_pass_39, s_X8_pass_42, s_X8_pass_43, s_X8_pass_44, s_X8_pass_45, s_X8_pass_46, s_X8_pass_47, s_X8_pass_48, s_X8_pass_49, s_X8_pass_50, s_X8_pass_53, s_X8_pass_54, s_X8_pass_55, s_X8_pass_56, s_X8_pass_58, s_X8_pass_59, s_X8_pass_60, s_X8_pass_61, s_X8_pass_62, s_X8_pass_63, s_X8_pass_64, s_X8_pass_65, s_X8_pass_66, s_X8_pass_67, s_X8_pass_68, s_X8_pass_69, s_X8_pass_70, s_X8_pass_72, s_X8_pass_73, s_X8_pass_74, s_X8_pass_77, s_X8_pass_80, zN_neg1, nL0, nL1, nL2, nL3, nL4, nL5, nL6, nL7, nL8, nL9, nL10, nL11, nL12, nL13, nL14, nL20, nL21, nL22, nL23, nL25, nL32, nL33, nL39, nL40, nL43, nL44, nL99, nL100, nL120, nL216, nL217, nL218, nL219, nL220, nL221, nL500, nL999, nL1000, nL10000, nL100000, sh33, zN_lt, zN_le, zN_eq, zN_ge0, zN_lt0, zN_nm, zN_mn, zN_mlt, zN_ltm, zN_lem, zN_mle, zN_m1, zN_m2, zN_addm, zN_ofNat, zN_beq, zN_add, zN_sub, zN_mul, zN_rem, qT_lt, qF_lt, qT_le, qF_le, qT_eq, qF_eq, ↓reduceIte, and_true, true_and, false_and, and_false, not_true_eq_false, not_false_eq_true, decide_true, decide_false, Bool.true_or, Bool.or_true, Bool.false_or, Bool.or_false, cond_true, cond_false, Nat.add_zero]
  | succ dq ih =>
    intro rs ms h1 h3 h5 h6 h7
    have e2 : 44 + 43 * sq + 23 + (dq + 1) - 1 = 44 + 43 * sq + 23 + dq := by omega
    have hv := h7 (dq + 1) (by omega)
    have hv1 := h7 dq (by omega)
    have hms : cO ms (dq + 1) = none := cO_none.mpr fun eq he hh => by have := h5 eq he; omega
    have hms1 : cO ms dq = none := cO_none.mpr fun eq he hh => by have := h5 eq he; omega
    rw [cO_app, hms] at hv
    rw [cO_app, hms1] at hv1
    rw [s_X8_pass_18]
    cases rs with
    | nil =>
      obtain ⟨f1, i1, i2, i3⟩ := ih [] ms (by omega) trivial (fun mq hm => by have := h5 mq hm; omega) h6 h7
      refine ⟨f1, i1, i2, ?_⟩
      have hv : fq (44 + 43 * sq + 23 + (dq + 1)) = zM := hv
      simp (disch := omega) only [s_X8_pass_19, s_X8_pass_20, s_X8_pass_22, s_X8_pass_23, s_X8_pass_26, s_X8_pass_27, s_X8_pass_28, s_X8_pass_29, s_X8_pass_30, s_X8_pass_33, s_X8_pass_34, s_X8_pass_35, s_X8_pass_36, s_X8_pass_37, s_X8_pass_38, s_X8_pass_39, s_X8_pass_42, s_X8_pass_43, s_X8_pass_44, s_X8_pass_45, s_X8_pass_46, s_X8_pass_47, s_X8_pass_48, s_X8_pass_49, s_X8_pass_50, s_X8_pass_53, s_X8_pass_54, s_X8_pass_55, s_X8_pass_56, s_X8_pass_58, s_X8_pass_59, s_X8_pass_60, s_X8_pass_61, s_X8_pass_62, s_X8_pass_63, s_X8_pass_64, s_X8_pass_65, s_X8_pass_66, s_X8_pass_67, s_X8_pass_68, s_X8_pass_69, s_X8_pass_70, s_X8_pass_72, s_X8_pass_73, s_X8_pass_74, s_X8_pass_77, zN_neg1, nL0, nL1, nL2, nL3, nL4, nL5, nL6, nL7, nL8, nL9, nL10, nL11, nL12, nL13, nL14, nL20, nL21, nL22, nL23, nL25, nL32, nL33, nL39, nL40, nL43, nL44, nL99, nL100, nL120, nL216, nL217, nL218, nL219, nL220, nL221, nL500, nL999, nL1000, nL10000, nL100000, sh33, zN_lt, zN_le, zN_eq, zN_ge0, zN_lt0, zN_nm, zN_mn, zN_mlt, zN_ltm, zN_lem, zN_mle, zN_m1, zN_m2, zN_addm, zN_ofNat, zN_beq, zN_add, zN_sub, zN_mul, zN_rem, qT_lt, qF_lt, qT_le, qF_le, qT_eq, qF_eq, ↓reduceIte, and_true, true_and, false_and, and_false, not_true_eq_false, not_false_eq_true, decide_true, decide_false, Bool.true_or, Bool.or_true, Bool.false_or, Bool.or_false, cond_true, cond_false, ↓md_ld, hv, e2]
      exact i3
    | cons e rs =>
      obtain ⟨ec, ek⟩ := e
      have hec : ec < dq + 1 + 1 := h3.1
      have hdn : cDown ec rs := h3.2
      by_cases hd : ec = dq + 1
      · subst hd
        have hk : ek < 10 := h6 (dq + 1, ek) (List.mem_append_right _ List.mem_cons_self)
        have hva : fq (44 + 43 * sq + 23 + (dq + 1)) = zN ek := by rw [hv]; show oV (if dq + 1 = dq + 1 then some ek else _) = _; rw [if_pos rfl]; rfl
        have hv1a : fq (44 + 43 * sq + 23 + dq) = oV (cO rs dq) := by
          rw [hv1]; show oV (if dq + 1 = dq then some ek else cO rs dq) = _; rw [if_neg (by omega)]
        have hgo := ih rs (ms ++ [(dq + 1, ek)]) (by omega) hdn (fun mq hm => by
            rcases List.mem_append.mp hm with hm | hm
            · have := h5 mq hm; omega
            · cases List.mem_singleton.mp hm; exact Nat.lt_succ_self _) (fun eq he => h6 eq (by rw [List.append_assoc] at he; exact he)) (fun jq hj => by rw [List.append_assoc]; exact h7 jq hj)
        obtain ⟨f1, i1, i2, i3⟩ := hgo
        cases rs with
        | nil =>
          refine ⟨f1, i1, ?_, ?_⟩
          · intro jq hj
            rw [i2 jq hj, List.append_assoc]; rfl
          · have hv1b : fq (44 + 43 * sq + 23 + dq) = zM := hv1a
            simp (disch := omega) only [s_X8_pass_19, s_X8_pass_20, s_X8_pass_22, s_X8_pass_23, s_X8_pass_26, s_X8_pass_27, s_X8_pass_28, s_X8_pass_29, s_X8_pass_30, s_X8_pass_33, s_X8_pass_34, s_X8_pass_35, s_X8_pass_36, s_X8_pass_37, s_X8_pass_38, s_X8_pass_39, s_X8_pass_42, s_X8_pass_43, s_X8_pass_44, s_X8_pass_45, s_X8_pass_46, s_X8_pass_47, s_X8_pass_48, s_X8_pass_49, s_X8_pass_50, s_X8_pass_53, s_X8_pass_54, s_X8_pass_55, s_X8_pass_56, s_X8_pass_58, s_X8_pass_59, s_X8_pass_60, s_X8_pass_61, s_X8_pass_62, s_X8_pass_63, s_X8_pass_64, s_X8_pass_65, s_X8_pass_66, s_X8_pass_67, s_X8_pass_68, s_X8_pass_69, s_X8_pass_70, s_X8_pass_72, s_X8_pass_73, s_X8_pass_74, s_X8_pass_77, zN_neg1, nL0, nL1, nL2, nL3, nL4, nL5, nL6, nL7, nL8, nL9, nL10, nL11, nL12, nL13, nL14, nL20, nL21, nL22, nL23, nL25, nL32, nL33, nL39, nL40, nL43, nL44, nL99, nL100, nL120, nL216, nL217, nL218, nL219, nL220, nL221, nL500, nL999, nL1000, nL10000, nL100000, sh33, zN_lt, zN_le, zN_eq, zN_ge0, zN_lt0, zN_nm, zN_mn, zN_mlt, zN_ltm, zN_lem, zN_mle, zN_m1, zN_m2, zN_addm, zN_ofNat, zN_beq, zN_add, zN_sub, zN_mul, zN_rem, qT_lt, qF_lt, qT_le, qF_le, qT_eq, qF_eq, ↓reduceIte, and_true, true_and, false_and, and_false, not_true_eq_false, not_false_eq_true, decide_true, decide_false, Bool.true_or, Bool.or_true, Bool.false_or, Bool.or_false, cond_true, cond_false, ↓md_ld, hva, hv1b, e2]
            exact i3
        | cons e2 rs =>
          obtain ⟨fc, fk⟩ := e2
          have hfc : fc < dq + 1 := hdn.1
          have hdn2 : cDown fc rs := hdn.2
          have hfk : fk < 10 := h6 (fc, fk) (List.mem_append_right _ (List.mem_cons_of_mem _ List.mem_cons_self))
          by_cases hf : fc = dq
          · subst hf
            have hv1b : fq (44 + 43 * sq + 23 + fc) = zN fk := by rw [hv1a]; show oV (if fc = fc then some fk else _) = _; rw [if_pos rfl]; rfl
            by_cases hg : fk < ek
            · refine ⟨upd (upd fq (44 + 43 * sq + 23 + (fc + 1)) (zN fk)) (44 + 43 * sq + 23 + fc) (zN ek), fun jq hj => by rw [qU_n (by omega), qU_n (by omega)], ?_, ?_⟩
              · intro jq hj
                rw [mxC_t ⟨rfl, hg⟩, cO_app]
                show _ = oV (match cO ms jq with
                  | some k9 => some k9
                  | none => if fc + 1 = jq then some fk else if fc = jq then some ek else cO rs jq)
                by_cases j1 : jq = fc
                · subst j1
                  rw [qU_s, hms1]
                  show zN ek = oV (if jq + 1 = jq then some fk else if jq = jq then some ek else cO rs jq)
                  rw [if_neg (by omega), if_pos rfl]; rfl
                · by_cases j2 : jq = fc + 1
                  · subst j2
                    rw [qU_n (by omega), qU_s, hms]
                    show zN fk = oV (if fc + 1 = fc + 1 then some fk else _)
                    rw [if_pos rfl]; rfl
                  · rw [qU_n (by omega), qU_n (by omega), h7 jq hj, cO_app]
                    show oV (match cO ms jq with
                      | some k9 => some k9
                      | none => if fc + 1 = jq then some ek else if fc = jq then some fk else cO rs jq) = _
                    rw [if_neg (by omega), if_neg (by omega), if_neg (by omega), if_neg (by omega)]
              · simp (disch := omega) only [s_X8_pass_19, s_X8_pass_20, s_X8_pass_22, s_X8_pass_23, s_X8_pass_26, s_X8_pass_27, s_X8_pass_28, s_X8_pass_29, s_X8_pass_30, s_X8_pass_33, s_X8_pass_34, s_X8_pass_35, s_X8_pass_36, s_X8_pass_37, s_X8_pass_38, s_X8_pass_39, s_X8_pass_42, s_X8_pass_43, s_X8_pass_44, s_X8_pass_45, s_X8_pass_46, s_X8_pass_47, s_X8_pass_48, s_X8_pass_49, s_X8_pass_50, s_X8_pass_53, s_X8_pass_54, s_X8_pass_55, s_X8_pass_56, s_X8_pass_58, s_X8_pass_59, s_X8_pass_60, s_X8_pass_61, s_X8_pass_62, s_X8_pass_63, s_X8_pass_64, s_X8_pass_65, s_X8_pass_66, s_X8_pass_67, s_X8_pass_68, s_X8_pass_69, s_X8_pass_70, s_X8_pass_72, s_X8_pass_73, s_X8_pass_74, s_X8_pass_77, zN_neg1, nL0, nL1, nL2, nL3, nL4, nL5, nL6, nL7, nL8, nL9, nL10, nL11, nL12, nL13, nL14, nL20, nL21, nL22, nL23, nL25, nL32, nL33, nL39, nL40, nL43, nL44, nL99, nL100, nL120, nL216, nL217, nL218, nL219, nL220, nL221, nL500, nL999, nL1000, nL10000, nL100000, sh33, zN_lt, zN_le, zN_eq, zN_ge0, zN_lt0, zN_nm, zN_mn, zN_mlt, zN_ltm, zN_lem, zN_mle, zN_m1, zN_m2, zN_addm, zN_ofNat, zN_beq, zN_add, zN_sub, zN_mul, zN_rem, qT_lt, qF_lt, qT_le, qF_le, qT_eq, qF_eq, ↓reduceIte, and_true, true_and, false_and, and_false, not_true_eq_false, not_false_eq_true, decide_true, decide_false, Bool.true_or, Bool.or_true, Bool.false_or, Bool.or_false, cond_true, cond_false, ↓md_ld, ↓md_st, hva, hv1b, e2]
            · refine ⟨f1, i1, ?_, ?_⟩
              · intro jq hj
                rw [i2 jq hj, mxC_f (fun h => hg h.2), List.append_assoc]; rfl
              · simp (disch := omega) only [s_X8_pass_19, s_X8_pass_20, s_X8_pass_22, s_X8_pass_23, s_X8_pass_26, s_X8_pass_27, s_X8_pass_28, s_X8_pass_29, s_X8_pass_30, s_X8_pass_33, s_X8_pass_34, s_X8_pass_35, s_X8_pass_36, s_X8_pass_37, s_X8_pass_38, s_X8_pass_39, s_X8_pass_42, s_X8_pass_43, s_X8_pass_44, s_X8_pass_45, s_X8_pass_46, s_X8_pass_47, s_X8_pass_48, s_X8_pass_49, s_X8_pass_50, s_X8_pass_53, s_X8_pass_54, s_X8_pass_55, s_X8_pass_56, s_X8_pass_58, s_X8_pass_59, s_X8_pass_60, s_X8_pass_61, s_X8_pass_62, s_X8_pass_63, s_X8_pass_64, s_X8_pass_65, s_X8_pass_66, s_X8_pass_67, s_X8_pass_68, s_X8_pass_69, s_X8_pass_70, s_X8_pass_72, s_X8_pass_73, s_X8_pass_74, s_X8_pass_77, zN_neg1, nL0, nL1, nL2, nL3, nL4, nL5, nL6, nL7, nL8, nL9, nL10, nL11, nL12, nL13, nL14, nL20, nL21, nL22, nL23, nL25, nL32, nL33, nL39, nL40, nL43, nL44, nL99, nL100, nL120, nL216, nL217, nL218, nL219, nL220, nL221, nL500, nL999, nL1000, nL10000, nL100000, sh33, zN_lt, zN_le, zN_eq, zN_ge0, zN_lt0, zN_nm, zN_mn, zN_mlt, zN_ltm, zN_lem, zN_mle, zN_m1, zN_m2, zN_addm, zN_ofNat, zN_beq, zN_add, zN_sub, zN_mul, zN_rem, qT_lt, qF_lt, qT_le, qF_le, qT_eq, qF_eq, ↓reduceIte, and_true, true_and, false_and, and_false, not_true_eq_false, not_false_eq_true, decide_true, decide_false, Bool.true_or, Bool.or_true, Bool.false_or, Bool.or_false, cond_true, cond_false, ↓md_ld, ↓md_st, hva, hv1b, e2]
                exact i3
          · refine ⟨f1, i1, ?_, ?_⟩
            · intro jq hj
              rw [i2 jq hj, mxC_f (fun h => hf (Nat.succ.inj h.1).symm), List.append_assoc]; rfl
            · have hv1b : fq (44 + 43 * sq + 23 + dq) = zM := by
                rw [hv1a]; show oV (if fc = dq then some fk else cO rs dq) = zM
                rw [if_neg hf, cO_below hdn2 (by omega)]; rfl
              simp (disch := omega) only [s_X8_pass_19, s_X8_pass_20, s_X8_pass_22, s_X8_pass_23, s_X8_pass_26, s_X8_pass_27, s_X8_pass_28, s_X8_pass_29, s_X8_pass_30, s_X8_pass_33, s_X8_pass_34, s_X8_pass_35, s_X8_pass_36, s_X8_pass_37, s_X8_pass_38, s_X8_pass_39, s_X8_pass_42, s_X8_pass_43, s_X8_pass_44, s_X8_pass_45, s_X8_pass_46, s_X8_pass_47, s_X8_pass_48, s_X8_pass_49, s_X8_pass_50, s_X8_pass_53, s_X8_pass_54, s_X8_pass_55, s_X8_pass_56, s_X8_pass_58, s_X8_pass_59, s_X8_pass_60, s_X8_pass_61, s_X8_pass_62, s_X8_pass_63, s_X8_pass_64, s_X8_pass_65, s_X8_pass_66, s_X8_pass_67, s_X8_pass_68, s_X8_pass_69, s_X8_pass_70, s_X8_pass_72, s_X8_pass_73, s_X8_pass_74, s_X8_pass_77, zN_neg1, nL0, nL1, nL2, nL3, nL4, nL5, nL6, nL7, nL8, nL9, nL10, nL11, nL12, nL13, nL14, nL20, nL21, nL22, nL23, nL25, nL32, nL33, nL39, nL40, nL43, nL44, nL99, nL100, nL120, nL216, nL217, nL218, nL219, nL220, nL221, nL500, nL999, nL1000, nL10000, nL100000, sh33, zN_lt, zN_le, zN_eq, zN_ge0, zN_lt0, zN_nm, zN_mn, zN_mlt, zN_ltm, zN_lem, zN_mle, zN_m1, zN_m2, zN_addm, zN_ofNat, zN_beq, zN_add, zN_sub, zN_mul, zN_rem, qT_lt, qF_lt, qT_le, qF_le, qT_eq, qF_eq, ↓reduceIte, and_true, true_and, false_and, and_false, not_true_eq_false, not_false_eq_true, decide_true, decide_false, Bool.true_or, Bool.or_true, Bool.false_or, Bool.or_false, cond_true, cond_false, ↓md_ld, ↓md_st, hva, hv1b, e2]
              exact i3
      · obtain ⟨f1, i1, i2, i3⟩ := ih ((ec, ek) :: rs) ms (by omega) ⟨by show ec < dq + 1; omega, hdn⟩ (fun mq hm => by have := h5 mq hm; omega) h6 h7
        refine ⟨f1, i1, i2, ?_⟩
        have hv : fq (44 + 43 * sq + 23 + (dq + 1)) = zM := by
          rw [hv]; show oV (if ec = dq + 1 then some ek else cO rs (dq + 1)) = zM
          rw [if_neg hd, cO_below hdn (by omega)]; rfl
        simp (disch := omega) only [s_X8_pass_19, s_X8_pass_20, s_X8_pass_22, s_X8_pass_23, s_X8_pass_26, s_X8_pass_27, s_X8_pass_28, s_X8_pass_29, s_X8_pass_30, s_X8_pass_33, s_X8_pass_34, s_X8_pass_35, s_X8_pass_36, s_X8_pass_37, s_X8_pass_38, s_X8_pass_39, s_X8_pass_42, s_X8_pass_43, s_X8_pass_44, s_X8_pass_45, s_X8_pass_46, s_X8_pass_47, s_X8_pass_48, s_X8_pass_49, s_X8_pass_50, s_X8_pass_53, s_X8_pass_54, s_X8_pass_55, s_X8_pass_56, s_X8_pass_58, s_X8_pass_59, s_X8_pass_60, s_X8_pass_61, s_X8_pass_62, s_X8_pass_63, s_X8_pass_64, s_X8_pass_65, s_X8_pass_66, s_X8_pass_67, s_X8_pass_68, s_X8_pass_69, s_X8_pass_70, s_X8_pass_72, s_X8_pass_73, s_X8_pass_74, s_X8_pass_77, zN_neg1, nL0, nL1, nL2, nL3, nL4, nL5, nL6, nL7, nL8, nL9, nL10, nL11, nL12, nL13, nL14, nL20, nL21, nL22, nL23, nL25, nL32, nL33, nL39, nL40, nL43, nL44, nL99, nL100, nL120, nL216, nL217, nL218, nL219, nL220, nL221, nL500, nL999, nL1000, nL10000, nL100000, sh33, zN_lt, zN_le, zN_eq, zN_ge0, zN_lt0, zN_nm, zN_mn, zN_mlt, zN_ltm, zN_lem, zN_mle, zN_m1, zN_m2, zN_addm, zN_ofNat, zN_beq, zN_add, zN_sub, zN_mul, zN_rem, qT_lt, qF_lt, qT_le, qF_le, qT_eq, qF_eq, ↓reduceIte, and_true, true_and, false_and, and_false, not_true_eq_false, not_false_eq_true, decide_true, decide_false, Bool.true_or, Bool.or_true, Bool.false_or, Bool.or_false, cond_true, cond_false, ↓md_ld, hv, e2]
        exact i3
theorem n_pass (hI : invT Aq) (hM : repM Aq fq) (hs : sq < tN Aq 0) : ∃ f1, repM (tSetC Aq sq (mxC (tC Aq sq))) f1 ∧ pwX so 159 0 [some (.ref aq), some (.int (zN sq)), none, none, none] [] g (mkA aq 221 fq w) = some (.inl none, g, (mkA aq 221 f1 w)) := by
  have h4 := hI.1
  have hms := hM.2.2.2.2 sq hs
  obtain ⟨⟨⟨i1, i2⟩, ⟨i3, i4⟩, i5, i6, i7, i8⟩, i9, i10, i11⟩ := hI.2.2 sq hs
  have hw := (walk_lt hI hs).2
  have a0 := hms.1.1
  have e1 : 44 + 43 * sq + 23 + tN Aq (4 + sq) - 1 = 44 + 43 * sq + 23 + (tN Aq (4 + sq) - 1) := by omega
  obtain ⟨f1, j1, j2, j3⟩ := @n_ps18 so g w aq sq fq (tN Aq (4 + sq)) (by omega) i2 (tN Aq (4 + sq) - 1) (tC Aq sq) [] (by omega) (by rw [show tN Aq (4 + sq) - 1 + 1 = tN Aq (4 + sq) by omega]; exact i10) (fun mq h => by cases h) (fun eq he => by have := hw eq he; omega) hms.2.2.2
  refine ⟨f1, repM_only h4.1 hI hM only_C ⟨rfl, rfl, rfl, rfl⟩ hs (fun jq hj => j1 jq (by omega)) (repMs_C hI hs hms j1 j2), ?_⟩
  simp (disch := omega) only [s_X8_pass_0, s_X8_pass_1, s_X8_pass_4, s_X8_pass_5, s_X8_pass_6, s_X8_pass_8, s_X8_pass_9, s_X8_pass_10, s_X8_pass_11, s_X8_pass_12, s_X8_pass_13, s_X8_pass_14, s_X8_pass_15, s_X8_pass_16, s_X8_pass_17, zN_neg1, nL0, nL1, nL2, nL3, nL4, nL5, nL6, nL7, nL8, nL9, nL10, nL11, nL12, nL13, nL14, nL20, nL21, nL22, nL23, nL25, nL32, nL33, nL39, nL40, nL43, nL44, nL99, nL100, nL120, nL216, nL217, nL218, nL219, nL220, nL221, nL500, nL999, nL1000, nL10000, nL100000, sh33, zN_lt, zN_le, zN_eq, zN_ge0, zN_lt0, zN_nm, zN_mn, zN_mlt, zN_ltm, zN_lem, zN_mle, zN_m1, zN_m2, zN_addm, zN_ofNat, zN_beq, zN_add, zN_sub, zN_mul, zN_rem, qT_lt, qF_lt, qT_le, qF_le, qT_eq, qF_eq, ↓reduceIte, and_true, true_and, false_and, and_false, not_true_eq_false, not_false_eq_true, decide_true, decide_false, Bool.true_or, Bool.or_true, Bool.false_or, Bool.or_false, cond_true, cond_false, ↓md_ld, qAv, n_block, a0, e1, Nat.add_zero]
  exact j3
theorem n_so40 {cn : Nat} (hc : cn < 10) (hn : fq 21 = zN cn) : ∀ dq jq, jq + dq = cn → pwX so 160 40 [some (.ref aq), some (.int (zN jq))] [] g (mkA aq 221 (qDel fq 22 (22 + jq)) w) = some (.inl none, g, (mkA aq 221 (qDel fq 22 (22 + cn)) w)) := by
  intro dq
  induction dq with
  | zero =>
    intro jq h1
    have h1 : jq = cn := by omega
    subst h1
    simp (disch := omega) only [s_X8_setOut_0, s_X8_setOut_1, s_X8_setOut_3, s_X8_setOut_4, s_X8_setOut_7, s_X8_setOut_8, s_X8_setOut_10, s_X8_setOut_11, s_X8_setOut_14, s_X8_setOut_15, s_X8_setOut_17, s_X8_setOut_18, s_X8_setOut_19, s_X8_setOut_22, s_X8_setOut_23, s_X8_setOut_25, s_X8_setOut_26, s_X8_setOut_28, s_X8_setOut_29, s_X8_setOut_30, s_X8_setOut_31, s_X8_setOut_33, s_X8_setOut_34, s_X8_setOut_35, s_X8_setOut_36, s_X8_setOut_37, s_X8_setOut_38, s_X8_setOut_39, s_X8_setOut_40, s_X8_setOut_41, s_X8_setOut_42, s_X8_setOut_44, s_X8_setOut_45, s_X8_setOut_48, s_X8_setOut_49, s_X8_setOut_51, s_X8_setOut_52, s_X8_setOut_53, s_X8_setOut_54, s_X8_setOut_56, s_X8_setOut_57, s_X8_setOut_58, s_X8_setOut_59, s_X8_setOut_60, s_X8_setOut_61, s_X8_setOut_62, s_X8_setOut_65, s_X8_setOut_68, zN_neg1, nL0, nL1, nL2, nL3, nL4, nL5, nL6, nL7, nL8, nL9, nL10, nL11, nL12, nL13, nL14, nL20, nL21, nL22, nL23, nL25, nL32, nL33, nL39, nL40, nL43, nL44, nL99, nL100, nL120, nL216, nL217, nL218, nL219, nL220, nL221, nL500, nL999, nL1000, nL10000, nL100000, sh33, zN_lt, zN_le, zN_eq, zN_ge0, zN_lt0, zN_nm, zN_mn, zN_mlt, zN_ltm, zN_lem, zN_mle, zN_m1, zN_m2, zN_addm, zN_ofNat, zN_beq, zN_add, zN_sub, zN_mul, zN_rem, qT_lt, qF_lt, qT_le, qF_le, qT_eq, qF_eq, ↓reduceIte, and_true, true_and, false_and, and_false, not_true_eq_false, not_false_eq_true, decide_true, decide_false, Bool.true_or, Bool.or_true, Bool.false_or, Bool.or_false, cond_true, cond_false, ↓md_ld, qD_o, hn]
  | succ dq ih =>
    intro jq h1
    have h5 := ih (jq + 1) (by omega)
    rw [s_X8_setOut_40]
    simp (disch := omega) only [s_X8_setOut_41, s_X8_setOut_42, s_X8_setOut_44, s_X8_setOut_45, s_X8_setOut_48, s_X8_setOut_49, s_X8_setOut_51, s_X8_setOut_52, s_X8_setOut_53, s_X8_setOut_54, s_X8_setOut_56, s_X8_setOut_57, s_X8_setOut_58, s_X8_setOut_59, s_X8_setOut_60, s_X8_setOut_61, s_X8_setOut_62, s_X8_setOut_65, zN_neg1, nL0, nL1, nL2, nL3, nL4, nL5, nL6, nL7, nL8, nL9, nL10, nL11, nL12, nL13, nL14, nL20, nL21, nL22, nL23, nL25, nL32, nL33, nL39, nL40, nL43, nL44, nL99, nL100, nL120, nL216, nL217, nL218, nL219, nL220, nL221, nL500, nL999, nL1000, nL10000, nL100000, sh33, zN_lt, zN_le, zN_eq, zN_ge0, zN_lt0, zN_nm, zN_mn, zN_mlt, zN_ltm, zN_lem, zN_mle, zN_m1, zN_m2, zN_addm, zN_ofNat, zN_beq, zN_add, zN_sub, zN_mul, zN_rem, qT_lt, qF_lt, qT_le, qF_le, qT_eq, qF_eq, ↓reduceIte, and_true, true_and, false_and, and_false, not_true_eq_false, not_false_eq_true, decide_true, decide_false, Bool.true_or, Bool.or_true, Bool.false_or, Bool.or_false, cond_true, cond_false, ↓md_ld, ↓md_st, qD_o, hn, qD_1]
    exact h5
theorem lsM_tail {kq : Nat} {ks : List Nat} {pz : Nat} (h : lsM pz (kq :: ks) fq) (he : ∀ jq, jq < ks.length → hq (pz + jq) = fq (pz + jq + 1)) : lsM pz ks hq := fun jq k9 h9 => by
  rw [he jq (List.getElem?_eq_some_iff.mp h9).1]
  exact h (jq + 1) k9 h9
theorem n_setOut (hI : invT Aq) (hM : repM Aq fq) : ∃ f1, repM (tOut Aq) f1 ∧ pwX so 160 0 [some (.ref aq), none] [] g (mkA aq 221 fq w) = some (.inl none, g, (mkA aq 221 f1 w)) := by
  have h4 := hI.1
  have hM2 := hM
  obtain ⟨⟨m0, m43, m216, m217, m218, m219, m220⟩, mk, ⟨m21, mst⟩, ⟨m32, mco⟩, ms⟩ := hM
  have hcl := come_len hI
  have hst := len_split hI (Nat.zero_le _)
  have hst2 : (fDn Aq 0).length = (tL Aq 1).length := by unfold fDn; rw [List.length_map]
  unfold tOut
  split
  · next h1 =>
    rw [h1] at m21
    have m21 : fq 21 = zN 0 := m21
    refine ⟨fq, hM2, ?_⟩
    by_cases h0 : tN Aq 0 = 0
    · simp (disch := omega) only [s_X8_setOut_0, s_X8_setOut_1, s_X8_setOut_3, s_X8_setOut_4, s_X8_setOut_7, s_X8_setOut_8, s_X8_setOut_10, s_X8_setOut_11, s_X8_setOut_14, s_X8_setOut_15, s_X8_setOut_17, s_X8_setOut_18, s_X8_setOut_19, s_X8_setOut_22, s_X8_setOut_23, s_X8_setOut_25, s_X8_setOut_26, s_X8_setOut_28, s_X8_setOut_29, s_X8_setOut_30, s_X8_setOut_31, s_X8_setOut_33, s_X8_setOut_34, s_X8_setOut_35, s_X8_setOut_36, s_X8_setOut_37, s_X8_setOut_38, s_X8_setOut_39, s_X8_setOut_68, nL67, zN_neg1, nL0, nL1, nL2, nL3, nL4, nL5, nL6, nL7, nL8, nL9, nL10, nL11, nL12, nL13, nL14, nL20, nL21, nL22, nL23, nL25, nL32, nL33, nL39, nL40, nL43, nL44, nL99, nL100, nL120, nL216, nL217, nL218, nL219, nL220, nL221, nL500, nL999, nL1000, nL10000, nL100000, sh33, zN_lt, zN_le, zN_eq, zN_ge0, zN_lt0, zN_nm, zN_mn, zN_mlt, zN_ltm, zN_lem, zN_mle, zN_m1, zN_m2, zN_addm, zN_ofNat, zN_beq, zN_add, zN_sub, zN_mul, zN_rem, qT_lt, qF_lt, qT_le, qF_le, qT_eq, qF_eq, ↓reduceIte, and_true, true_and, false_and, and_false, not_true_eq_false, not_false_eq_true, decide_true, decide_false, Bool.true_or, Bool.or_true, Bool.false_or, Bool.or_false, cond_true, cond_false, ↓md_ld, m43, h0]
    · simp (disch := omega) only [s_X8_setOut_0, s_X8_setOut_1, s_X8_setOut_3, s_X8_setOut_4, s_X8_setOut_7, s_X8_setOut_8, s_X8_setOut_10, s_X8_setOut_11, s_X8_setOut_14, s_X8_setOut_15, s_X8_setOut_17, s_X8_setOut_18, s_X8_setOut_19, s_X8_setOut_22, s_X8_setOut_23, s_X8_setOut_25, s_X8_setOut_26, s_X8_setOut_28, s_X8_setOut_29, s_X8_setOut_30, s_X8_setOut_31, s_X8_setOut_33, s_X8_setOut_34, s_X8_setOut_35, s_X8_setOut_36, s_X8_setOut_37, s_X8_setOut_38, s_X8_setOut_39, s_X8_setOut_68, nL67, zN_neg1, nL0, nL1, nL2, nL3, nL4, nL5, nL6, nL7, nL8, nL9, nL10, nL11, nL12, nL13, nL14, nL20, nL21, nL22, nL23, nL25, nL32, nL33, nL39, nL40, nL43, nL44, nL99, nL100, nL120, nL216, nL217, nL218, nL219, nL220, nL221, nL500, nL999, nL1000, nL10000, nL100000, sh33, zN_lt, zN_le, zN_eq, zN_ge0, zN_lt0, zN_nm, zN_mn, zN_mlt, zN_ltm, zN_lem, zN_mle, zN_m1, zN_m2, zN_addm, zN_ofNat, zN_beq, zN_add, zN_sub, zN_mul, zN_rem, qT_lt, qF_lt, qT_le, qF_le, qT_eq, qF_eq, ↓reduceIte, and_true, true_and, false_and, and_false, not_true_eq_false, not_false_eq_true, decide_true, decide_false, Bool.true_or, Bool.or_true, Bool.false_or, Bool.or_false, cond_true, cond_false, ↓md_ld, m43, m21]
  · next kq ks h1 =>
    rw [h1] at m21 mst hst2
    have m21 : fq 21 = zN (ks.length + 1) := m21
    rw [List.length_cons] at hst2
    by_cases h0 : tN Aq 0 = 0
    · rw [if_neg (by omega)]
      refine ⟨fq, hM2, ?_⟩
      simp (disch := omega) only [s_X8_setOut_0, s_X8_setOut_1, s_X8_setOut_3, s_X8_setOut_4, s_X8_setOut_7, s_X8_setOut_8, s_X8_setOut_10, s_X8_setOut_11, s_X8_setOut_14, s_X8_setOut_15, s_X8_setOut_17, s_X8_setOut_18, s_X8_setOut_19, s_X8_setOut_22, s_X8_setOut_23, s_X8_setOut_25, s_X8_setOut_26, s_X8_setOut_28, s_X8_setOut_29, s_X8_setOut_30, s_X8_setOut_31, s_X8_setOut_33, s_X8_setOut_34, s_X8_setOut_35, s_X8_setOut_36, s_X8_setOut_37, s_X8_setOut_38, s_X8_setOut_39, s_X8_setOut_68, nL67, zN_neg1, nL0, nL1, nL2, nL3, nL4, nL5, nL6, nL7, nL8, nL9, nL10, nL11, nL12, nL13, nL14, nL20, nL21, nL22, nL23, nL25, nL32, nL33, nL39, nL40, nL43, nL44, nL99, nL100, nL120, nL216, nL217, nL218, nL219, nL220, nL221, nL500, nL999, nL1000, nL10000, nL100000, sh33, zN_lt, zN_le, zN_eq, zN_ge0, zN_lt0, zN_nm, zN_mn, zN_mlt, zN_ltm, zN_lem, zN_mle, zN_m1, zN_m2, zN_addm, zN_ofNat, zN_beq, zN_add, zN_sub, zN_mul, zN_rem, qT_lt, qF_lt, qT_le, qF_le, qT_eq, qF_eq, ↓reduceIte, and_true, true_and, false_and, and_false, not_true_eq_false, not_false_eq_true, decide_true, decide_false, Bool.true_or, Bool.or_true, Bool.false_or, Bool.or_false, cond_true, cond_false, ↓md_ld, m43, h0]
    · have hs : 0 < tN Aq 0 := by omega
      have d0 : fq 67 = oV (cO (tC Aq 0) 0) := (ms 0 hs).2.2.2 0 (by omega)
      have hf := free0 hI hs
      have hkq : fq 22 = zN kq := mst 0 kq rfl
      by_cases hx : ∀ eq ∈ tC Aq 0, 0 < eq.1
      · rw [if_pos ⟨hs, hx⟩]
        have d1 : fq 67 = zM := by rw [d0]; exact hf.mpr hx
        refine ⟨qDel (upd (upd fq 67 (zN kq)) 21 (zN ks.length)) 22 (22 + ks.length), ?_, ?_⟩
        · have hev : ∀ jq, (jq < 21 ∨ 22 + ks.length ≤ jq) → jq ≠ 67 → qDel (upd (upd fq 67 (zN kq)) 21 (zN ks.length)) 22 (22 + ks.length) jq = fq jq := fun jq z1 z2 => by
            simp (disch := omega) only [qU_n, qD_o]
          unfold repM
          have t0 : tL (tOt Aq kq ks) 0 = tL Aq 0 := ot_L (by decide)
          have t1 : tL (tOt Aq kq ks) 1 = ks := ot_L1
          rw [t0, t1]
          refine ⟨⟨?_, ?_, ?_, ?_, ?_, ?_, ?_⟩, fun k9 hk => ?_, ⟨?_, lsM_tail mst fun jq hj => ?_⟩, ⟨?_, lsM_eq mco fun jq hj => hev _ (by omega) (by omega)⟩, fun s2 hs2 => ?_⟩
          · rw [hev _ (by omega) (by omega)]; exact m0
          · rw [hev _ (by omega) (by omega)]; exact m43
          · rw [hev _ (by omega) (by omega)]; exact m216
          · rw [hev _ (by omega) (by omega)]; exact m217
          · rw [hev _ (by omega) (by omega)]; exact m218
          · rw [hev _ (by omega) (by omega)]; exact m219
          · rw [hev _ (by omega) (by omega)]; exact m220
          · have hk : k9 < tN Aq 1 := hk
            rw [hev _ (by omega) (by omega), hev _ (by omega) (by omega)]; exact mk k9 hk
          · simp (disch := omega) only [qD_o, qU_s]
          · simp (disch := omega) only [qD_i, qU_n]
          · rw [hev _ (by omega) (by omega)]; exact m32
          · have hs2 : s2 < tN Aq 0 := hs2
            obtain ⟨⟨⟨j1, j2⟩, ⟨j3, j4⟩, j5, j6, j7, j8⟩, j9, j10, j11⟩ := hI.2.2 s2 hs2
            have hrd2 := (rd_le hI hs2).1
            refine repMs_eq (Bq := tOt Aq kq ks) (ms s2 hs2) rfl (ot_L (by omega)) (ot_L (by omega)) (by omega) (by omega) (fun jq hj => hev _ (by omega) (by omega)) (fun cq hc => ?_)
            by_cases hy : s2 = 0
            · subst hy
              rw [ot_C0, cO_app]
              by_cases hz : cq = 0
              · subst hz
                rw [cO_none.mpr (fun eq he => by have := hx eq he; omega)]
                show qDel _ 22 _ 67 = zN kq
                simp (disch := omega) only [qD_o, qU_n, qU_s]
              · rw [hev _ (by omega) (by omega), (ms 0 hs).2.2.2 cq hc]
                cases h9 : cO (tC Aq 0) cq with
                | some k9 => rfl
                | none =>
                  show oV none = oV (if 0 = cq then some _ else none)
                  rw [if_neg (by omega)]
            · rw [ot_C hy, hev _ (by omega) (by omega)]
              exact (ms s2 hs2).2.2.2 cq hc
        · have h8 := @n_so40 so g w aq (upd (upd fq 67 (zN kq)) 21 (zN ks.length)) ks.length (by omega) qU_s ks.length 0 (by omega)
          rw [Nat.add_zero, qD_0] at h8
          simp (disch := omega) only [s_X8_setOut_0, s_X8_setOut_1, s_X8_setOut_3, s_X8_setOut_4, s_X8_setOut_7, s_X8_setOut_8, s_X8_setOut_10, s_X8_setOut_11, s_X8_setOut_14, s_X8_setOut_15, s_X8_setOut_17, s_X8_setOut_18, s_X8_setOut_19, s_X8_setOut_22, s_X8_setOut_23, s_X8_setOut_25, s_X8_setOut_26, s_X8_setOut_28, s_X8_setOut_29, s_X8_setOut_30, s_X8_setOut_31, s_X8_setOut_33, s_X8_setOut_34, s_X8_setOut_35, s_X8_setOut_36, s_X8_setOut_37, s_X8_setOut_38, s_X8_setOut_39, s_X8_setOut_68, nL67, zN_neg1, nL0, nL1, nL2, nL3, nL4, nL5, nL6, nL7, nL8, nL9, nL10, nL11, nL12, nL13, nL14, nL20, nL21, nL22, nL23, nL25, nL32, nL33, nL39, nL40, nL43, nL44, nL99, nL100, nL120, nL216, nL217, nL218, nL219, nL220, nL221, nL500, nL999, nL1000, nL10000, nL100000, sh33, zN_lt, zN_le, zN_eq, zN_ge0, zN_lt0, zN_nm, zN_mn, zN_mlt, zN_ltm, zN_lem, zN_mle, zN_m1, zN_m2, zN_addm, zN_ofNat, zN_beq, zN_add, zN_sub, zN_mul, zN_rem, qT_lt, qF_lt, qT_le, qF_le, qT_eq, qF_eq, ↓reduceIte, and_true, true_and, false_and, and_false, not_true_eq_false, not_false_eq_true, decide_true, decide_false, Bool.true_or, Bool.or_true, Bool.false_or, Bool.or_false, cond_true, cond_false, ↓md_ld, ↓md_st, m43, m21, d1, hkq, qU_n, Nat.add_sub_cancel]
          exact h8
      · rw [if_neg (fun h => hx h.2)]
        have d1 : ¬ fq 67 = zM := by rw [d0]; exact fun h => hx (hf.mp h)
        refine ⟨fq, hM2, ?_⟩
        simp (disch := omega) only [s_X8_setOut_0, s_X8_setOut_1, s_X8_setOut_3, s_X8_setOut_4, s_X8_setOut_7, s_X8_setOut_8, s_X8_setOut_10, s_X8_setOut_11, s_X8_setOut_14, s_X8_setOut_15, s_X8_setOut_17, s_X8_setOut_18, s_X8_setOut_19, s_X8_setOut_22, s_X8_setOut_23, s_X8_setOut_25, s_X8_setOut_26, s_X8_setOut_28, s_X8_setOut_29, s_X8_setOut_30, s_X8_setOut_31, s_X8_setOut_33, s_X8_setOut_34, s_X8_setOut_35, s_X8_setOut_36, s_X8_setOut_37, s_X8_setOut_38, s_X8_setOut_39, s_X8_setOut_68, nL67, zN_neg1, nL0, nL1, nL2, nL3, nL4, nL5, nL6, nL7, nL8, nL9, nL10, nL11, nL12, nL13, nL14, nL20, nL21, nL22, nL23, nL25, nL32, nL33, nL39, nL40, nL43, nL44, nL99, nL100, nL120, nL216, nL217, nL218, nL219, nL220, nL221, nL500, nL999, nL1000, nL10000, nL100000, sh33, zN_lt, zN_le, zN_eq, zN_ge0, zN_lt0, zN_nm, zN_mn, zN_mlt, zN_ltm, zN_lem, zN_mle, zN_m1, zN_m2, zN_addm, zN_ofNat, zN_beq, zN_add, zN_sub, zN_mul, zN_rem, qT_lt, qF_lt, qT_le, qF_le, qT_eq, qF_eq, ↓reduceIte, and_true, true_and, false_and, and_false, not_true_eq_false, not_false_eq_true, decide_true, decide_false, Bool.true_or, Bool.or_true, Bool.false_or, Bool.or_false, cond_true, cond_false, ↓md_ld, m43, m21, d1]
end QA

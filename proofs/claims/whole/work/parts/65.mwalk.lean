/-! the pure part: a tick of the model: joining a crowd, going on -/
theorem nL67 : (67 : Int32) = zN 67 := rfl
theorem mvC_t {lm : Nat} {eq : Nat × Nat} {es : List (Nat × Nat)} (h : eq.1 + 1 < lm) : mvC lm (eq :: es) = (eq.1 + 1, eq.2) :: mvC (eq.1 + 1) es := if_pos h
theorem mvC_f {lm : Nat} {eq : Nat × Nat} {es : List (Nat × Nat)} (h : ¬ eq.1 + 1 < lm) : mvC lm (eq :: es) = eq :: mvC eq.1 es := if_neg h
section QA
variable {so : Nat → Nat} {g : pwG} {w : pwW} {aq nq sq Sq : Nat} {fq : Nat → Int32} {pq rq tq uq : Int32} {Aq : TA} {xq : Int64}
theorem cO_below {es : List (Nat × Nat)} {lm cq : Nat} (h : cDown lm es) (hc : lm ≤ cq) : cO es cq = none := cO_none.mpr fun eq he hh => by
  have := cDown_lt h eq he; omega
theorem n_mv71 {ce : Nat} (hs : sq < 4) (hc : ce ≤ 20) : ∀ (dq : Nat) (rs ms : List (Nat × Nat)) (lm : Nat) (fq : Nat → Int32), dq < ce → dq ≤ lm → cDown dq rs → (lm = ce ∨ ∃ mq ∈ ms, mq.1 = lm) → (∀ mq ∈ ms, lm ≤ mq.1) → (∀ eq ∈ ms ++ rs, eq.2 < 10) → (∀ jq, jq < 20 → fq (44 + 43 * sq + 23 + jq) = oV (cO (ms ++ rs) jq)) → ∃ f1 : Nat → Int32, (∀ jq, jq < 44 + 43 * sq + 23 ∨ 44 + 43 * sq + 43 ≤ jq → f1 jq = fq jq) ∧ (∀ jq, jq < 20 → f1 (44 + 43 * sq + 23 + jq) = oV (cO (ms ++ mvC lm rs) jq)) ∧ pwX so 158 71 [some (.ref aq), some (.int (zN sq)), some (.int (zN (44 + 43 * sq))), some (.int pq), some (.int (zN (44 + 43 * sq + 22 + dq)))] [] g (mkA aq 221 fq w) = some (.inl none, g, (mkA aq 221 f1 w)) := by
  intro dq
  induction dq with
  | zero =>
    intro rs ms lm fq h1 h2 h3 h4 h5 h6 h7
    refine ⟨fq, fun _ _ => rfl, ?_, ?_⟩
    · cases rs with
      | nil => exact h7
      | cons e rs => exact absurd h3.1 (Nat.not_lt_zero _)
    · simp (disch := omega) only [s_X8_walk_0, s_X8_walk_1, s_X8_walk_4, s_X8_walk_5, s_X8_walk_6, s_X8_walk_8, s_X8_walk_9, s_X8_walk_10, s_X8_walk_11, s_X8_walk_12, s_X8_walk_13, s_X8_walk_14, s_X8_walk_15, s_X8_walk_16, s_X8_walk_17, s_X8_walk_18, s_X8_walk_19, s_X8_walk_20, s_X8_walk_21, s_X8_walk_22, s_X8_walk_25, s_X8_walk_26, s_X8_walk_27, s_X8_walk_28, s_X8_walk_29, s_X8_walk_30, s_X8_walk_31, s_X8_walk_32, s_X8_walk_33, s_X8_walk_34, s_X8_walk_35, s_X8_walk_38, s_X8_walk_39, s_X8_walk_40, s_X8_walk_42, s_X8_walk_43, s_X8_walk_44, s_X8_walk_45, s_X8_walk_46, s_X8_walk_47, s_X8_walk_48, s_X8_walk_49, s_X8_walk_50, s_X8_walk_51, s_X8_walk_52, s_X8_walk_53, s_X8_walk_54, s_X8_walk_55, s_X8_walk_56, s_X8_walk_57, s_X8_walk_58, s_X8_walk_59, s_X8_walk_60, s_X8_walk_61, s_X8_walk_62, s_X8_walk_63, s_X8_walk_64, s_X8_walk_65, s_X8_walk_66, s_X8_walk_67, s_X8_walk_68, s_X8_walk_69, s_X8_walk_71, s_X8_walk_73, s_X8_walk_74, s_X8_walk_76, s_X8_walk_77, s_X8_walk_80, s_X8_walk_81, s_X8_walk_83, s_X8_walk_84, s_X8_walk_85, s_X8_walk_88, s_X8_walk_89, s_X8_walk_91, s_X8_walk_92, s_X8_walk_93, s_X8_walk_94, s_X8_walk_95, s_X8_walk_98, s_X8_walk_99, s_X8_walk_101, s_X8_walk_102, s_X8_walk_103, s_X8_walk_104, s_X8_walk_106, s_X8_walk_107, s_X8_walk_108, s_X8_walk_109, s_X8_walk_111, s_X8_walk_112, s_X8_walk_113, s_X8_walk_116, s_X8_walk_119, zN_neg1, nL0, nL1, nL2, nL3, nL4, nL5, nL6, nL7, nL8, nL9, nL10, nL11, nL12, nL13, nL14, nL20, nL21, nL22, nL23, nL25, nL32, nL33, nL39, nL40, nL43, nL44, nL99, nL100, nL120, nL216, nL217, nL218, nL219, nL220, nL221, nL500, nL999, nL1000, nL10000, nL100000, sh33, zN_lt, zN_le, zN_eq, zN_ge0, zN_lt0, zN_nm, zN_mn, zN_mlt, zN_ltm, zN_lem, zN_mle, zN_m1, zN_m2, zN_addm, zN_ofNat, zN_beq, zN_add, zN_sub, zN_mul, zN_rem, qT_lt, qF_lt, qT_le, qF_le, qT_eq, qF_eq, ↓reduceIte, and_true, true_and, false_and, and_false, not_true_eq_false, not_false_eq_true, decide_true, decide_false, Bool.true_or, Bool.or_true, Bool.false_or, Bool.or_false, cond_true, cond_false]
  | succ dq ih =>
    intro rs ms lm fq h1 h2 h3 h4 h5 h6 h7
    have e1 : 44 + 43 * sq + 22 + (dq + 1) = 44 + 43 * sq + 23 + dq := by omega
    have e2 : 44 + 43 * sq + 23 + dq - 1 = 44 + 43 * sq + 22 + dq := by omega
    have e3 : 44 + 43 * sq + 23 + dq + 1 = 44 + 43 * sq + 23 + (dq + 1) := by omega
    have hms : cO ms dq = none := cO_none.mpr fun eq he hh => by have := h5 eq he; omega
    have hv := h7 dq (by omega)
    have hv1 := h7 (dq + 1) (by omega)
    rw [cO_app, hms] at hv
    rw [e1, s_X8_walk_71]
    cases rs with
    | nil =>
      obtain ⟨f1, i1, i2, i3⟩ := ih [] ms lm fq (by omega) (by omega) trivial h4 h5 h6 h7
      refine ⟨f1, i1, i2, ?_⟩
      have hv : fq (44 + 43 * sq + 23 + dq) = zM := hv
      simp (disch := omega) only [s_X8_walk_73, s_X8_walk_74, s_X8_walk_76, s_X8_walk_77, s_X8_walk_80, s_X8_walk_81, s_X8_walk_83, s_X8_walk_84, s_X8_walk_85, s_X8_walk_88, s_X8_walk_89, s_X8_walk_91, s_X8_walk_92, s_X8_walk_93, s_X8_walk_94, s_X8_walk_95, s_X8_walk_98, s_X8_walk_99, s_X8_walk_101, s_X8_walk_102, s_X8_walk_103, s_X8_walk_104, s_X8_walk_106, s_X8_walk_107, s_X8_walk_108, s_X8_walk_109, s_X8_walk_111, s_X8_walk_112, s_X8_walk_113, s_X8_walk_116, zN_neg1, nL0, nL1, nL2, nL3, nL4, nL5, nL6, nL7, nL8, nL9, nL10, nL11, nL12, nL13, nL14, nL20, nL21, nL22, nL23, nL25, nL32, nL33, nL39, nL40, nL43, nL44, nL99, nL100, nL120, nL216, nL217, nL218, nL219, nL220, nL221, nL500, nL999, nL1000, nL10000, nL100000, sh33, zN_lt, zN_le, zN_eq, zN_ge0, zN_lt0, zN_nm, zN_mn, zN_mlt, zN_ltm, zN_lem, zN_mle, zN_m1, zN_m2, zN_addm, zN_ofNat, zN_beq, zN_add, zN_sub, zN_mul, zN_rem, qT_lt, qF_lt, qT_le, qF_le, qT_eq, qF_eq, ↓reduceIte, and_true, true_and, false_and, and_false, not_true_eq_false, not_false_eq_true, decide_true, decide_false, Bool.true_or, Bool.or_true, Bool.false_or, Bool.or_false, cond_true, cond_false, ↓md_ld, hv, e2]
      exact i3
    | cons e rs =>
      obtain ⟨ec, ek⟩ := e
      by_cases hd : ec = dq
      · subst hd
        have hk : ek < 10 := h6 (ec, ek) (List.mem_append_right _ List.mem_cons_self)
        have hv : fq (44 + 43 * sq + 23 + ec) = zN ek := by rw [hv]; show oV (if ec = ec then some ek else _) = _; rw [if_pos rfl]; rfl
        have hrs : cDown ec rs := h3.2
        have hrd : cO rs ec = none := cO_below hrs (Nat.le_refl _)
        have hrd1 : cO rs (ec + 1) = none := cO_below hrs (by omega)
        by_cases hl : ec + 1 < lm
        · have hm1 : cO ms (ec + 1) = none := cO_none.mpr fun eq he hh => by have := h5 eq he; omega
          have hv1 : fq (44 + 43 * sq + 23 + (ec + 1)) = zM := by
            rw [hv1, cO_app, hm1]
            show oV (if ec = ec + 1 then some ek else cO rs (ec + 1)) = zM
            rw [if_neg (by omega), hrd1]; rfl
          obtain ⟨f1, i1, i2, i3⟩ := ih rs (ms ++ [(ec + 1, ek)]) (ec + 1) (upd (upd fq (44 + 43 * sq + 23 + (ec + 1)) (zN ek)) (44 + 43 * sq + 23 + ec) zM) (by omega) (by omega) hrs (Or.inr ⟨_, List.mem_append_right _ List.mem_cons_self, rfl⟩) (fun mq hm => by
            rcases List.mem_append.mp hm with hm | hm
            · have := h5 mq hm; omega
            · cases List.mem_singleton.mp hm; exact Nat.le_refl _) (fun eq he => by
            rw [List.append_assoc] at he
            rcases List.mem_append.mp he with he | he
            · exact h6 eq (List.mem_append_left _ he)
            · rcases List.mem_cons.mp he with rfl | he
              · exact hk
              · exact h6 eq (List.mem_append_right _ (List.mem_cons_of_mem _ he))) (fun jq hj => by
            rw [List.append_assoc, cO_app]
            show _ = oV (match cO ms jq with
              | some k9 => some k9
              | none => if ec + 1 = jq then some ek else cO rs jq)
            by_cases j1 : jq = ec
            · subst j1
              rw [qU_s, hms]
              show zM = oV (if jq + 1 = jq then some ek else cO rs jq)
              rw [if_neg (by omega), hrd]; rfl
            · by_cases j2 : jq = ec + 1
              · subst j2
                rw [qU_n (by omega), qU_s, hm1]
                show zN ek = oV (if ec + 1 = ec + 1 then some ek else _)
                rw [if_pos rfl]; rfl
              · rw [qU_n (by omega), qU_n (by omega), h7 jq hj, cO_app]
                show oV (match cO ms jq with
                  | some k9 => some k9
                  | none => if ec = jq then some ek else cO rs jq) = _
                rw [if_neg (by omega), if_neg (by omega)])
          refine ⟨f1, fun jq hj => by rw [i1 jq hj, qU_n (by omega), qU_n (by omega)], ?_, ?_⟩
          · intro jq hj
            rw [i2 jq hj, mvC_t (eq := (ec, ek)) hl, List.append_assoc]; rfl
          · simp (disch := omega) only [s_X8_walk_73, s_X8_walk_74, s_X8_walk_76, s_X8_walk_77, s_X8_walk_80, s_X8_walk_81, s_X8_walk_83, s_X8_walk_84, s_X8_walk_85, s_X8_walk_88, s_X8_walk_89, s_X8_walk_91, s_X8_walk_92, s_X8_walk_93, s_X8_walk_94, s_X8_walk_95, s_X8_walk_98, s_X8_walk_99, s_X8_walk_101, s_X8_walk_102, s_X8_walk_103, s_X8_walk_104, s_X8_walk_106, s_X8_walk_107, s_X8_walk_108, s_X8_walk_109, s_X8_walk_111, s_X8_walk_112, s_X8_walk_113, s_X8_walk_116, zN_neg1, nL0, nL1, nL2, nL3, nL4, nL5, nL6, nL7, nL8, nL9, nL10, nL11, nL12, nL13, nL14, nL20, nL21, nL22, nL23, nL25, nL32, nL33, nL39, nL40, nL43, nL44, nL99, nL100, nL120, nL216, nL217, nL218, nL219, nL220, nL221, nL500, nL999, nL1000, nL10000, nL100000, sh33, zN_lt, zN_le, zN_eq, zN_ge0, zN_lt0, zN_nm, zN_mn, zN_mlt, zN_ltm, zN_lem, zN_mle, zN_m1, zN_m2, zN_addm, zN_ofNat, zN_beq, zN_add, zN_sub, zN_mul, zN_rem, qT_lt, qF_lt, qT_le, qF_le, qT_eq, qF_eq, ↓reduceIte, and_true, true_and, false_and, and_false, not_true_eq_false, not_false_eq_true, decide_true, decide_false, Bool.true_or, Bool.or_true, Bool.false_or, Bool.or_false, cond_true, cond_false, ↓md_ld, ↓md_st, hv, hv1, e2, e3]
            exact i3
        · have hl1 : lm = ec + 1 := by omega
          obtain ⟨mq, hm, hm2⟩ := h4.resolve_left (by omega)
          have hm1 : cO ms (ec + 1) ≠ none := fun hh => cO_none.mp hh mq hm (by omega)
          have hv1 : ¬ fq (44 + 43 * sq + 23 + (ec + 1)) = zM := by
            rw [hv1, cO_app]
            cases h9 : cO ms (ec + 1) with
            | none => exact absurd h9 hm1
            | some k9 =>
              have := h6 _ (List.mem_append_left _ (cO_mem h9))
              have h8 : k9 < 10 := this
              show ¬ zN k9 = zM
              rw [zN_nm (by omega)]; exact id
          obtain ⟨f1, i1, i2, i3⟩ := ih rs (ms ++ [(ec, ek)]) ec fq (by omega) (Nat.le_refl _) hrs (Or.inr ⟨_, List.mem_append_right _ List.mem_cons_self, rfl⟩) (fun mq hm => by
            rcases List.mem_append.mp hm with hm | hm
            · have := h5 mq hm; omega
            · cases List.mem_singleton.mp hm; exact Nat.le_refl _) (fun eq he => h6 eq (by rw [List.append_assoc] at he; exact he)) (fun jq hj => by rw [List.append_assoc]; exact h7 jq hj)
          refine ⟨f1, i1, ?_, ?_⟩
          · intro jq hj
            rw [i2 jq hj, mvC_f (eq := (ec, ek)) hl, List.append_assoc]; rfl
          · simp (disch := omega) only [s_X8_walk_73, s_X8_walk_74, s_X8_walk_76, s_X8_walk_77, s_X8_walk_80, s_X8_walk_81, s_X8_walk_83, s_X8_walk_84, s_X8_walk_85, s_X8_walk_88, s_X8_walk_89, s_X8_walk_91, s_X8_walk_92, s_X8_walk_93, s_X8_walk_94, s_X8_walk_95, s_X8_walk_98, s_X8_walk_99, s_X8_walk_101, s_X8_walk_102, s_X8_walk_103, s_X8_walk_104, s_X8_walk_106, s_X8_walk_107, s_X8_walk_108, s_X8_walk_109, s_X8_walk_111, s_X8_walk_112, s_X8_walk_113, s_X8_walk_116, zN_neg1, nL0, nL1, nL2, nL3, nL4, nL5, nL6, nL7, nL8, nL9, nL10, nL11, nL12, nL13, nL14, nL20, nL21, nL22, nL23, nL25, nL32, nL33, nL39, nL40, nL43, nL44, nL99, nL100, nL120, nL216, nL217, nL218, nL219, nL220, nL221, nL500, nL999, nL1000, nL10000, nL100000, sh33, zN_lt, zN_le, zN_eq, zN_ge0, zN_lt0, zN_nm, zN_mn, zN_mlt, zN_ltm, zN_lem, zN_mle, zN_m1, zN_m2, zN_addm, zN_ofNat, zN_beq, zN_add, zN_sub, zN_mul, zN_rem, qT_lt, qF_lt, qT_le, qF_le, qT_eq, qF_eq, ↓reduceIte, and_true, true_and, false_and, and_false, not_true_eq_false, not_false_eq_true, decide_true, decide_false, Bool.true_or, Bool.or_true, Bool.false_or, Bool.or_false, cond_true, cond_false, ↓md_ld, hv, hv1, e2, e3]
            exact i3
      · have hec : ec < dq := by have h8 : ec < dq + 1 := h3.1; omega
        obtain ⟨f1, i1, i2, i3⟩ := ih ((ec, ek) :: rs) ms lm fq (by omega) (by omega) ⟨hec, h3.2⟩ h4 h5 h6 h7
        refine ⟨f1, i1, i2, ?_⟩
        have hv : fq (44 + 43 * sq + 23 + dq) = zM := by
          rw [hv]
          show oV (if ec = dq then some ek else cO rs dq) = zM
          rw [if_neg hd, cO_below h3.2 (by omega)]; rfl
        simp (disch := omega) only [s_X8_walk_73, s_X8_walk_74, s_X8_walk_76, s_X8_walk_77, s_X8_walk_80, s_X8_walk_81, s_X8_walk_83, s_X8_walk_84, s_X8_walk_85, s_X8_walk_88, s_X8_walk_89, s_X8_walk_91, s_X8_walk_92, s_X8_walk_93, s_X8_walk_94, s_X8_walk_95, s_X8_walk_98, s_X8_walk_99, s_X8_walk_101, s_X8_walk_102, s_X8_walk_103, s_X8_walk_104, s_X8_walk_106, s_X8_walk_107, s_X8_walk_108, s_X8_walk_109, s_X8_walk_111, s_X8_walk_112, s_X8_walk_113, s_X8_walk_116, zN_neg1, nL0, nL1, nL2, nL3, nL4, nL5, nL6, nL7, nL8, nL9, nL10, nL11, nL12, nL13, nL14, nL20, nL21, nL22, nL23, nL25, nL32, nL33, nL39, nL40, nL43, nL44, nL99, nL100, nL120, nL216, nL217, nL218, nL219, nL220, nL221, nL500, nL999, nL1000, nL10000, nL100000, sh33, zN_lt, zN_le, zN_eq, zN_ge0, zN_lt0, zN_nm, zN_mn, zN_mlt, zN_ltm, zN_lem, zN_mle, zN_m1, zN_m2, zN_addm, zN_ofNat, zN_beq, zN_add, zN_sub, zN_mul, zN_rem, qT_lt, qF_lt, qT_le, qF_le, qT_eq, qF_eq, ↓reduceIte, and_true, true_and, false_and, and_false, not_true_eq_false, not_false_eq_true, decide_true, decide_false, Bool.true_or, Bool.or_true, Bool.false_or, Bool.or_false, cond_true, cond_false, ↓md_ld, hv, e2]
        exact i3
end QA

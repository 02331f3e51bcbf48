/-! the pure part: the law's cases 0 to 6 -/
section QA
variable {so : Nat → Nat} {g : pwG} {bq L9 N9 iq : Nat} {w : pwW} {xs : Nat → Int32} {Fq : FS} {o5 o6 : Option Value}
theorem k_append (h : LW so bq L9 N9 xs Fq w) (hi : iq + 5 ≤ L9) (hL : L9 ≤ 2560) : ∃ (F9 : FS) (g9 : pwG) (w9 : pwW) (p5 p6 : Option Value), LW so bq L9 N9 xs F9 w9 ∧ (g9.2.2.1 ≤ g.2.2.1 + 1 ∧ g9.2.2.2 ≤ g.2.2.2 + 6) ∧ pwX so 243 164 [some (.ref bq), some (.ref N9), some (.ref (N9 + 280)), some (.ref (N9 + 290)), some (.int (zN iq)), o5, o6] [] g w = pwX so 243 23 [some (.ref bq), some (.ref N9), some (.ref (N9 + 280)), some (.ref (N9 + 290)), some (.int (zN (iq + 5))), p5, p6] [] g9 w9 := by
  obtain ⟨hC, ⟨sc, Rq, hM, hR⟩, ⟨fz, hO⟩, hb, hbN, hs⟩ := h
  obtain ⟨w1, a1, a2, a3⟩ := x_app (so := so) (g := g) (xx := N9) (w := w) (Fq := Fq) (kq := (xs (iq + 1))) hC
  have i6 : pwIsC w N9 6 = true := ci_ hC.1
  have hO1 : w1 (N9 + 290) = .inl (1, 1, .inr (.inl fz)) := by rw [a2 _ (by omega)]; exact hO
  obtain ⟨e0, e1, e2, e3, e4⟩ := lds hb hi hL
  have hcd := cd_append (Fq := Fq) (kq := (xs (iq + 1)))
  generalize hf : (fApp Fq (xs (iq + 1))) = rv at *
  obtain ⟨⟨cd, vq⟩, F9⟩ := rv
  dsimp only at a1 a3 hcd
  obtain ⟨g2, w2, f2, r1, r2, r3, r4, r5⟩ := lw_go (l_append i6 a3 hcd hO1) hO1
  have hfr : ∀ aq, aq < N9 ∨ (N9 + 280 ≤ aq ∧ aq ≠ N9 + 290) → w2 aq = w aq := fun aq ha => by rw [r3 aq (by omega)]; exact a2 aq (by omega)
  have hM2 : w2 = mkM (N9 + 280) sc Rq w2 := mkM_cong (fun aq c1 c2 => hfr aq (by omega)) hM
  obtain ⟨s1, R1, b1, b2, b3⟩ := y_app (so := so) (g := g2) (bq := N9 + 280) (w := w2) (sc := sc) (Rq := Rq) (Fq := Fq) (kq := (xs (iq + 1))) hR
  have b4 := y_thrown (so := so) (g := g2) (bq := N9 + 280) (sc := s1) (Rq := R1) (w := w2)
  rw [hf] at b1 b2 b3
  rw [b2] at b4
  rw [← hM2] at b3
  dsimp only at b3 b4
  have j7 : pwIsC w2 (N9 + 280) 7 = true := by rw [hM2]; exact mm_i
  have hb2 : w2 bq = .inl (4, L9, .inl xs) := by rw [hfr bq (by omega)]; exact hb
  obtain ⟨d0, d1, d2, d3, d4⟩ := lds hb2 hi hL
  have hO3 : mkM (N9 + 280) s1 R1 w2 (N9 + 290) = .inl (1, 1, .inr (.inl f2)) := by rw [mm_o (by omega)]; exact r4
  have hj := ldJ hO3
  refine ⟨F9, g2, mkM (N9 + 280) s1 R1 w2, some (.int (zN cd)), some (.int vq), ?_, r2, ?_⟩
  · exact LW_mk (cls_fr (fun aq c1 c2 => r3 aq (by omega)) a1) b1 ⟨f2, r4⟩ hb2 hbN (soW_f2 hs (fun aq ha => hfr aq (Or.inl ha)))
  · by_cases h0 : cd = 0
    · rw [r5 h0] at hj
      rw [h0] at r1 b4 ⊢
      simp (disch := omega) only [s_L_law_164, s_L_law_165, s_L_law_166, s_L_law_168, s_L_law_169, s_L_law_170, s_L_law_171, s_L_law_172, s_L_law_175, s_L_law_177, s_L_law_178, s_L_law_179, s_L_law_181, s_L_law_182, s_L_law_183, s_L_law_184, s_L_law_187, s_L_law_189, s_L_law_190, s_L_law_193, s_L_law_195, s_L_law_198, s_L_law_199, s_L_law_200, s_L_law_202, s_L_law_205, s_L_law_206, s_L_law_207, s_L_law_208, s_L_law_210, s_L_law_211, s_L_law_212, s_L_law_215, s_L_law_216, s_L_law_217, s_L_law_1725, s_L_law_1728, zN_neg1, nL0, nL1, nL2, nL3, nL4, nL5, nL6, nL7, nL8, nL9, nL10, nL11, nL12, nL13, nL14, nL20, nL21, nL22, nL23, nL25, nL32, nL33, nL39, nL40, nL43, nL44, nL99, nL100, nL120, nL216, nL217, nL218, nL219, nL220, nL221, nL500, nL999, nL1000, nL10000, nL100000, sh33, zN_lt, zN_le, zN_eq, zN_ge0, zN_lt0, zN_nm, zN_mn, zN_mlt, zN_ltm, zN_lem, zN_mle, zN_m1, zN_m2, zN_addm, zN_ofNat, zN_beq, zN_add, zN_sub, zN_mul, zN_rem, qT_lt, qF_lt, qT_le, qF_le, qT_eq, qF_eq, ↓reduceIte, and_true, true_and, false_and, and_false, not_true_eq_false, not_false_eq_true, decide_true, decide_false, Bool.true_or, Bool.or_true, Bool.false_or, Bool.or_false, cond_true, cond_false, qbi, qb1, qb0, qAv, cond_true, Option.bind_some, i6, j7, mm_i, e0, e1, e2, e3, e4, d0, d1, d2, d3, d4, r1, b3, b4, hj, lcE0]
    · simp (disch := omega) only [s_L_law_164, s_L_law_165, s_L_law_166, s_L_law_168, s_L_law_169, s_L_law_170, s_L_law_171, s_L_law_172, s_L_law_175, s_L_law_177, s_L_law_178, s_L_law_179, s_L_law_181, s_L_law_182, s_L_law_183, s_L_law_184, s_L_law_187, s_L_law_189, s_L_law_190, s_L_law_193, s_L_law_195, s_L_law_198, s_L_law_199, s_L_law_200, s_L_law_202, s_L_law_205, s_L_law_206, s_L_law_207, s_L_law_208, s_L_law_210, s_L_law_211, s_L_law_212, s_L_law_215, s_L_law_216, s_L_law_217, s_L_law_1725, s_L_law_1728, zN_neg1, nL0, nL1, nL2, nL3, nL4, nL5, nL6, nL7, nL8, nL9, nL10, nL11, nL12, nL13, nL14, nL20, nL21, nL22, nL23, nL25, nL32, nL33, nL39, nL40, nL43, nL44, nL99, nL100, nL120, nL216, nL217, nL218, nL219, nL220, nL221, nL500, nL999, nL1000, nL10000, nL100000, sh33, zN_lt, zN_le, zN_eq, zN_ge0, zN_lt0, zN_nm, zN_mn, zN_mlt, zN_ltm, zN_lem, zN_mle, zN_m1, zN_m2, zN_addm, zN_ofNat, zN_beq, zN_add, zN_sub, zN_mul, zN_rem, qT_lt, qF_lt, qT_le, qF_le, qT_eq, qF_eq, ↓reduceIte, and_true, true_and, false_and, and_false, not_true_eq_false, not_false_eq_true, decide_true, decide_false, Bool.true_or, Bool.or_true, Bool.false_or, Bool.or_false, cond_true, cond_false, qbi, qb1, qb0, qAv, cond_true, Option.bind_some, i6, j7, mm_i, e0, e1, e2, e3, e4, d0, d1, d2, d3, d4, r1, b3, b4, hj, h0]
theorem k_clearText (h : LW so bq L9 N9 xs Fq w) (hi : iq + 5 ≤ L9) (hL : L9 ≤ 2560) : ∃ (F9 : FS) (g9 : pwG) (w9 : pwW) (p5 p6 : Option Value), LW so bq L9 N9 xs F9 w9 ∧ (g9.2.2.1 ≤ g.2.2.1 + 1 ∧ g9.2.2.2 ≤ g.2.2.2 + 6) ∧ pwX so 243 220 [some (.ref bq), some (.ref N9), some (.ref (N9 + 280)), some (.ref (N9 + 290)), some (.int (zN iq)), o5, o6] [] g w = pwX so 243 23 [some (.ref bq), some (.ref N9), some (.ref (N9 + 280)), some (.ref (N9 + 290)), some (.int (zN (iq + 5))), p5, p6] [] g9 w9 := by
  obtain ⟨hC, ⟨sc, Rq, hM, hR⟩, ⟨fz, hO⟩, hb, hbN, hs⟩ := h
  obtain ⟨w1, a1, a2, a3⟩ := x_clr (so := so) (g := g) (xx := N9) (w := w) (Fq := Fq)  hC
  have i6 : pwIsC w N9 6 = true := ci_ hC.1
  have hO1 : w1 (N9 + 290) = .inl (1, 1, .inr (.inl fz)) := by rw [a2 _ (by omega)]; exact hO
  obtain ⟨e0, e1, e2, e3, e4⟩ := lds hb hi hL
  have hfr : ∀ aq, aq < N9 ∨ N9 + 280 ≤ aq → w1 aq = w aq := a2
  have hM2 : w1 = mkM (N9 + 280) sc Rq w1 := mkM_cong (fun aq c1 c2 => hfr aq (by omega)) hM
  obtain ⟨s1, R1, b1, b2, b3⟩ := y_clr (so := so) (g := g) (bq := N9 + 280) (w := w1) (sc := sc) (Rq := Rq) (Fq := Fq)  hR
  rw [← hM2] at b3
  have j7 : pwIsC w1 (N9 + 280) 7 = true := by rw [hM2]; exact mm_i
  have hb2 : w1 bq = .inl (4, L9, .inl xs) := by rw [hfr bq (by omega)]; exact hb
  have a3 : pwX so 97 0 [some (.ref N9)] [] g w = some (.inl (some (.int (fClr Fq).1.2)), g, w1) := a3
  refine ⟨_, g, mkM (N9 + 280) s1 R1 w1, o5, o6, LW_mk a1 b1 ⟨fz, hO1⟩ hb2 hbN (soW_f2 hs (fun aq ha => hfr aq (Or.inl ha))), ⟨Nat.le_succ _, Nat.le_add_right _ _⟩, ?_⟩
  generalize (fClr Fq).1.2 = v9 at a3 b3
  simp (disch := omega) only [s_L_law_220, s_L_law_221, s_L_law_224, s_L_law_225, s_L_law_228, s_L_law_231, s_L_law_232, s_L_law_1725, s_L_law_1728, zN_neg1, nL0, nL1, nL2, nL3, nL4, nL5, nL6, nL7, nL8, nL9, nL10, nL11, nL12, nL13, nL14, nL20, nL21, nL22, nL23, nL25, nL32, nL33, nL39, nL40, nL43, nL44, nL99, nL100, nL120, nL216, nL217, nL218, nL219, nL220, nL221, nL500, nL999, nL1000, nL10000, nL100000, sh33, zN_lt, zN_le, zN_eq, zN_ge0, zN_lt0, zN_nm, zN_mn, zN_mlt, zN_ltm, zN_lem, zN_mle, zN_m1, zN_m2, zN_addm, zN_ofNat, zN_beq, zN_add, zN_sub, zN_mul, zN_rem, qT_lt, qF_lt, qT_le, qF_le, qT_eq, qF_eq, ↓reduceIte, and_true, true_and, false_and, and_false, not_true_eq_false, not_false_eq_true, decide_true, decide_false, Bool.true_or, Bool.or_true, Bool.false_or, Bool.or_false, cond_true, cond_false, qbi, qb1, qb0, qAv, cond_true, Option.bind_some, i6, j7, mm_i, a3, b3]
theorem k_errorPosition (h : LW so bq L9 N9 xs Fq w) (hi : iq + 5 ≤ L9) (hL : L9 ≤ 2560) : ∃ (F9 : FS) (g9 : pwG) (w9 : pwW) (p5 p6 : Option Value), LW so bq L9 N9 xs F9 w9 ∧ (g9.2.2.1 ≤ g.2.2.1 + 1 ∧ g9.2.2.2 ≤ g.2.2.2 + 6) ∧ pwX so 243 233 [some (.ref bq), some (.ref N9), some (.ref (N9 + 280)), some (.ref (N9 + 290)), some (.int (zN iq)), o5, o6] [] g w = pwX so 243 23 [some (.ref bq), some (.ref N9), some (.ref (N9 + 280)), some (.ref (N9 + 290)), some (.int (zN (iq + 5))), p5, p6] [] g9 w9 := by
  obtain ⟨hC, ⟨sc, Rq, hM, hR⟩, ⟨fz, hO⟩, hb, hbN, hs⟩ := h
  obtain ⟨w1, a1, a2, a3⟩ := x_err (so := so) (g := g) (xx := N9) (w := w) (Fq := Fq)  hs hC
  have i6 : pwIsC w N9 6 = true := ci_ hC.1
  have hO1 : w1 (N9 + 290) = .inl (1, 1, .inr (.inl fz)) := by rw [a2 _ (by omega)]; exact hO
  obtain ⟨e0, e1, e2, e3, e4⟩ := lds hb hi hL
  have hfr : ∀ aq, aq < N9 ∨ N9 + 280 ≤ aq → w1 aq = w aq := a2
  have hM2 : w1 = mkM (N9 + 280) sc Rq w1 := mkM_cong (fun aq c1 c2 => hfr aq (by omega)) hM
  obtain ⟨s1, R1, b1, b2, b3⟩ := y_err (so := so) (g := g) (bq := N9 + 280) (w := w1) (sc := sc) (Rq := Rq) (Fq := Fq)  hR
  rw [← hM2] at b3
  have j7 : pwIsC w1 (N9 + 280) 7 = true := by rw [hM2]; exact mm_i
  have hb2 : w1 bq = .inl (4, L9, .inl xs) := by rw [hfr bq (by omega)]; exact hb
  have a3 : pwX so 98 0 [some (.ref N9)] [] g w = some (.inl (some (.int (fErrP Fq).2)), g, w1) := a3
  refine ⟨_, g, mkM (N9 + 280) s1 R1 w1, o5, o6, LW_mk a1 b1 ⟨fz, hO1⟩ hb2 hbN (soW_f2 hs (fun aq ha => hfr aq (Or.inl ha))), ⟨Nat.le_succ _, Nat.le_add_right _ _⟩, ?_⟩
  generalize (fErrP Fq).2 = v9 at a3 b3
  simp (disch := omega) only [s_L_law_233, s_L_law_234, s_L_law_237, s_L_law_238, s_L_law_241, s_L_law_244, s_L_law_245, s_L_law_1725, s_L_law_1728, zN_neg1, nL0, nL1, nL2, nL3, nL4, nL5, nL6, nL7, nL8, nL9, nL10, nL11, nL12, nL13, nL14, nL20, nL21, nL22, nL23, nL25, nL32, nL33, nL39, nL40, nL43, nL44, nL99, nL100, nL120, nL216, nL217, nL218, nL219, nL220, nL221, nL500, nL999, nL1000, nL10000, nL100000, sh33, zN_lt, zN_le, zN_eq, zN_ge0, zN_lt0, zN_nm, zN_mn, zN_mlt, zN_ltm, zN_lem, zN_mle, zN_m1, zN_m2, zN_addm, zN_ofNat, zN_beq, zN_add, zN_sub, zN_mul, zN_rem, qT_lt, qF_lt, qT_le, qF_le, qT_eq, qF_eq, ↓reduceIte, and_true, true_and, false_and, and_false, not_true_eq_false, not_false_eq_true, decide_true, decide_false, Bool.true_or, Bool.or_true, Bool.false_or, Bool.or_false, cond_true, cond_false, qbi, qb1, qb0, qAv, cond_true, Option.bind_some, i6, j7, mm_i, a3, b3]
theorem k_load (h : LW so bq L9 N9 xs Fq w) (hi : iq + 5 ≤ L9) (hL : L9 ≤ 2560) : ∃ (F9 : FS) (g9 : pwG) (w9 : pwW) (p5 p6 : Option Value), LW so bq L9 N9 xs F9 w9 ∧ (g9.2.2.1 ≤ g.2.2.1 + 1 ∧ g9.2.2.2 ≤ g.2.2.2 + 6) ∧ pwX so 243 246 [some (.ref bq), some (.ref N9), some (.ref (N9 + 280)), some (.ref (N9 + 290)), some (.int (zN iq)), o5, o6] [] g w = pwX so 243 23 [some (.ref bq), some (.ref N9), some (.ref (N9 + 280)), some (.ref (N9 + 290)), some (.int (zN (iq + 5))), p5, p6] [] g9 w9 := by
  obtain ⟨hC, ⟨sc, Rq, hM, hR⟩, ⟨fz, hO⟩, hb, hbN, hs⟩ := h
  obtain ⟨w1, a1, a2, a3⟩ := x_load (so := so) (g := g) (xx := N9) (w := w) (Fq := Fq)  hs hC
  have i6 : pwIsC w N9 6 = true := ci_ hC.1
  have hO1 : w1 (N9 + 290) = .inl (1, 1, .inr (.inl fz)) := by rw [a2 _ (by omega)]; exact hO
  obtain ⟨e0, e1, e2, e3, e4⟩ := lds hb hi hL
  have hcd := cd_load (Fq := Fq) 
  generalize hf : (fLoad Fq) = rv at *
  obtain ⟨⟨cd, vq⟩, F9⟩ := rv
  dsimp only at a1 a3 hcd
  obtain ⟨g2, w2, f2, r1, r2, r3, r4, r5⟩ := lw_go (l_load i6 a3 hcd hO1) hO1
  have hfr : ∀ aq, aq < N9 ∨ (N9 + 280 ≤ aq ∧ aq ≠ N9 + 290) → w2 aq = w aq := fun aq ha => by rw [r3 aq (by omega)]; exact a2 aq (by omega)
  have hM2 : w2 = mkM (N9 + 280) sc Rq w2 := mkM_cong (fun aq c1 c2 => hfr aq (by omega)) hM
  obtain ⟨s1, R1, b1, b2, b3⟩ := y_load (so := so) (g := g2) (bq := N9 + 280) (w := w2) (sc := sc) (Rq := Rq) (Fq := Fq)  hR
  have b4 := y_thrown (so := so) (g := g2) (bq := N9 + 280) (sc := s1) (Rq := R1) (w := w2)
  rw [hf] at b1 b2 b3
  rw [b2] at b4
  rw [← hM2] at b3
  dsimp only at b3 b4
  have j7 : pwIsC w2 (N9 + 280) 7 = true := by rw [hM2]; exact mm_i
  have hb2 : w2 bq = .inl (4, L9, .inl xs) := by rw [hfr bq (by omega)]; exact hb
  obtain ⟨d0, d1, d2, d3, d4⟩ := lds hb2 hi hL
  have hO3 : mkM (N9 + 280) s1 R1 w2 (N9 + 290) = .inl (1, 1, .inr (.inl f2)) := by rw [mm_o (by omega)]; exact r4
  have hj := ldJ hO3
  refine ⟨F9, g2, mkM (N9 + 280) s1 R1 w2, some (.int (zN cd)), some (.int vq), ?_, r2, ?_⟩
  · exact LW_mk (cls_fr (fun aq c1 c2 => r3 aq (by omega)) a1) b1 ⟨f2, r4⟩ hb2 hbN (soW_f2 hs (fun aq ha => hfr aq (Or.inl ha)))
  · by_cases h0 : cd = 0
    · rw [r5 h0] at hj
      rw [h0] at r1 b4 ⊢
      simp (disch := omega) only [s_L_law_246, s_L_law_247, s_L_law_248, s_L_law_251, s_L_law_253, s_L_law_254, s_L_law_257, s_L_law_259, s_L_law_260, s_L_law_263, s_L_law_265, s_L_law_268, s_L_law_269, s_L_law_270, s_L_law_272, s_L_law_275, s_L_law_276, s_L_law_277, s_L_law_278, s_L_law_280, s_L_law_281, s_L_law_282, s_L_law_285, s_L_law_286, s_L_law_287, s_L_law_1725, s_L_law_1728, zN_neg1, nL0, nL1, nL2, nL3, nL4, nL5, nL6, nL7, nL8, nL9, nL10, nL11, nL12, nL13, nL14, nL20, nL21, nL22, nL23, nL25, nL32, nL33, nL39, nL40, nL43, nL44, nL99, nL100, nL120, nL216, nL217, nL218, nL219, nL220, nL221, nL500, nL999, nL1000, nL10000, nL100000, sh33, zN_lt, zN_le, zN_eq, zN_ge0, zN_lt0, zN_nm, zN_mn, zN_mlt, zN_ltm, zN_lem, zN_mle, zN_m1, zN_m2, zN_addm, zN_ofNat, zN_beq, zN_add, zN_sub, zN_mul, zN_rem, qT_lt, qF_lt, qT_le, qF_le, qT_eq, qF_eq, ↓reduceIte, and_true, true_and, false_and, and_false, not_true_eq_false, not_false_eq_true, decide_true, decide_false, Bool.true_or, Bool.or_true, Bool.false_or, Bool.or_false, cond_true, cond_false, qbi, qb1, qb0, qAv, cond_true, Option.bind_some, i6, j7, mm_i, e0, e1, e2, e3, e4, d0, d1, d2, d3, d4, r1, b3, b4, hj, lcE0]
    · simp (disch := omega) only [s_L_law_246, s_L_law_247, s_L_law_248, s_L_law_251, s_L_law_253, s_L_law_254, s_L_law_257, s_L_law_259, s_L_law_260, s_L_law_263, s_L_law_265, s_L_law_268, s_L_law_269, s_L_law_270, s_L_law_272, s_L_law_275, s_L_law_276, s_L_law_277, s_L_law_278, s_L_law_280, s_L_law_281, s_L_law_282, s_L_law_285, s_L_law_286, s_L_law_287, s_L_law_1725, s_L_law_1728, zN_neg1, nL0, nL1, nL2, nL3, nL4, nL5, nL6, nL7, nL8, nL9, nL10, nL11, nL12, nL13, nL14, nL20, nL21, nL22, nL23, nL25, nL32, nL33, nL39, nL40, nL43, nL44, nL99, nL100, nL120, nL216, nL217, nL218, nL219, nL220, nL221, nL500, nL999, nL1000, nL10000, nL100000, sh33, zN_lt, zN_le, zN_eq, zN_ge0, zN_lt0, zN_nm, zN_mn, zN_mlt, zN_ltm, zN_lem, zN_mle, zN_m1, zN_m2, zN_addm, zN_ofNat, zN_beq, zN_add, zN_sub, zN_mul, zN_rem, qT_lt, qF_lt, qT_le, qF_le, qT_eq, qF_eq, ↓reduceIte, and_true, true_and, false_and, and_false, not_true_eq_false, not_false_eq_true, decide_true, decide_false, Bool.true_or, Bool.or_true, Bool.false_or, Bool.or_false, cond_true, cond_false, qbi, qb1, qb0, qAv, cond_true, Option.bind_some, i6, j7, mm_i, e0, e1, e2, e3, e4, d0, d1, d2, d3, d4, r1, b3, b4, hj, h0]
theorem k_about (h : LW so bq L9 N9 xs Fq w) (hi : iq + 5 ≤ L9) (hL : L9 ≤ 2560) : ∃ (F9 : FS) (g9 : pwG) (w9 : pwW) (p5 p6 : Option Value), LW so bq L9 N9 xs F9 w9 ∧ (g9.2.2.1 ≤ g.2.2.1 + 1 ∧ g9.2.2.2 ≤ g.2.2.2 + 6) ∧ pwX so 243 290 [some (.ref bq), some (.ref N9), some (.ref (N9 + 280)), some (.ref (N9 + 290)), some (.int (zN iq)), o5, o6] [] g w = pwX so 243 23 [some (.ref bq), some (.ref N9), some (.ref (N9 + 280)), some (.ref (N9 + 290)), some (.int (zN (iq + 5))), p5, p6] [] g9 w9 := by
  obtain ⟨hC, ⟨sc, Rq, hM, hR⟩, ⟨fz, hO⟩, hb, hbN, hs⟩ := h
  obtain ⟨w1, a1, a2, a3⟩ := x_about (so := so) (g := g) (xx := N9) (w := w) (Fq := Fq) (pq := (xs (iq + 1))) hC
  have i6 : pwIsC w N9 6 = true := ci_ hC.1
  have hO1 : w1 (N9 + 290) = .inl (1, 1, .inr (.inl fz)) := by rw [a2 _ (by omega)]; exact hO
  obtain ⟨e0, e1, e2, e3, e4⟩ := lds hb hi hL
  have hcd := cd_about (Fq := Fq) (pq := (xs (iq + 1)))
  generalize hf : (fAbout Fq (xs (iq + 1))) = rv at *
  obtain ⟨cd, vq⟩ := rv
  dsimp only at a1 a3 hcd
  obtain ⟨g2, w2, f2, r1, r2, r3, r4, r5⟩ := lw_go (l_about i6 a3 hcd hO1) hO1
  have hfr : ∀ aq, aq < N9 ∨ (N9 + 280 ≤ aq ∧ aq ≠ N9 + 290) → w2 aq = w aq := fun aq ha => by rw [r3 aq (by omega)]; exact a2 aq (by omega)
  have hM2 : w2 = mkM (N9 + 280) sc Rq w2 := mkM_cong (fun aq c1 c2 => hfr aq (by omega)) hM
  obtain ⟨s1, R1, b1, b2, b3⟩ := y_about (so := so) (g := g2) (bq := N9 + 280) (w := w2) (sc := sc) (Rq := Rq) (Fq := Fq) (pq := (xs (iq + 1))) hR
  have b4 := y_thrown (so := so) (g := g2) (bq := N9 + 280) (sc := s1) (Rq := R1) (w := w2)
  rw [hf] at b2 b3
  rw [b2] at b4
  rw [← hM2] at b3
  dsimp only at b3 b4
  have j7 : pwIsC w2 (N9 + 280) 7 = true := by rw [hM2]; exact mm_i
  have hb2 : w2 bq = .inl (4, L9, .inl xs) := by rw [hfr bq (by omega)]; exact hb
  obtain ⟨d0, d1, d2, d3, d4⟩ := lds hb2 hi hL
  have hO3 : mkM (N9 + 280) s1 R1 w2 (N9 + 290) = .inl (1, 1, .inr (.inl f2)) := by rw [mm_o (by omega)]; exact r4
  have hj := ldJ hO3
  refine ⟨Fq, g2, mkM (N9 + 280) s1 R1 w2, some (.int (zN cd)), some (.int vq), ?_, r2, ?_⟩
  · exact LW_mk (cls_fr (fun aq c1 c2 => r3 aq (by omega)) a1) b1 ⟨f2, r4⟩ hb2 hbN (soW_f2 hs (fun aq ha => hfr aq (Or.inl ha)))
  · by_cases h0 : cd = 0
    · rw [r5 h0] at hj
      rw [h0] at r1 b4 ⊢
      simp (disch := omega) only [s_L_law_290, s_L_law_291, s_L_law_292, s_L_law_294, s_L_law_295, s_L_law_296, s_L_law_297, s_L_law_298, s_L_law_301, s_L_law_303, s_L_law_304, s_L_law_305, s_L_law_307, s_L_law_308, s_L_law_309, s_L_law_310, s_L_law_313, s_L_law_315, s_L_law_316, s_L_law_319, s_L_law_321, s_L_law_324, s_L_law_325, s_L_law_326, s_L_law_328, s_L_law_331, s_L_law_332, s_L_law_333, s_L_law_334, s_L_law_336, s_L_law_337, s_L_law_338, s_L_law_341, s_L_law_342, s_L_law_343, s_L_law_1725, s_L_law_1728, zN_neg1, nL0, nL1, nL2, nL3, nL4, nL5, nL6, nL7, nL8, nL9, nL10, nL11, nL12, nL13, nL14, nL20, nL21, nL22, nL23, nL25, nL32, nL33, nL39, nL40, nL43, nL44, nL99, nL100, nL120, nL216, nL217, nL218, nL219, nL220, nL221, nL500, nL999, nL1000, nL10000, nL100000, sh33, zN_lt, zN_le, zN_eq, zN_ge0, zN_lt0, zN_nm, zN_mn, zN_mlt, zN_ltm, zN_lem, zN_mle, zN_m1, zN_m2, zN_addm, zN_ofNat, zN_beq, zN_add, zN_sub, zN_mul, zN_rem, qT_lt, qF_lt, qT_le, qF_le, qT_eq, qF_eq, ↓reduceIte, and_true, true_and, false_and, and_false, not_true_eq_false, not_false_eq_true, decide_true, decide_false, Bool.true_or, Bool.or_true, Bool.false_or, Bool.or_false, cond_true, cond_false, qbi, qb1, qb0, qAv, cond_true, Option.bind_some, i6, j7, mm_i, e0, e1, e2, e3, e4, d0, d1, d2, d3, d4, r1, b3, b4, hj, lcE0]
    · simp (disch := omega) only [s_L_law_290, s_L_law_291, s_L_law_292, s_L_law_294, s_L_law_295, s_L_law_296, s_L_law_297, s_L_law_298, s_L_law_301, s_L_law_303, s_L_law_304, s_L_law_305, s_L_law_307, s_L_law_308, s_L_law_309, s_L_law_310, s_L_law_313, s_L_law_315, s_L_law_316, s_L_law_319, s_L_law_321, s_L_law_324, s_L_law_325, s_L_law_326, s_L_law_328, s_L_law_331, s_L_law_332, s_L_law_333, s_L_law_334, s_L_law_336, s_L_law_337, s_L_law_338, s_L_law_341, s_L_law_342, s_L_law_343, s_L_law_1725, s_L_law_1728, zN_neg1, nL0, nL1, nL2, nL3, nL4, nL5, nL6, nL7, nL8, nL9, nL10, nL11, nL12, nL13, nL14, nL20, nL21, nL22, nL23, nL25, nL32, nL33, nL39, nL40, nL43, nL44, nL99, nL100, nL120, nL216, nL217, nL218, nL219, nL220, nL221, nL500, nL999, nL1000, nL10000, nL100000, sh33, zN_lt, zN_le, zN_eq, zN_ge0, zN_lt0, zN_nm, zN_mn, zN_mlt, zN_ltm, zN_lem, zN_mle, zN_m1, zN_m2, zN_addm, zN_ofNat, zN_beq, zN_add, zN_sub, zN_mul, zN_rem, qT_lt, qF_lt, qT_le, qF_le, qT_eq, qF_eq, ↓reduceIte, and_true, true_and, false_and, and_false, not_true_eq_false, not_false_eq_true, decide_true, decide_false, Bool.true_or, Bool.or_true, Bool.false_or, Bool.or_false, cond_true, cond_false, qbi, qb1, qb0, qAv, cond_true, Option.bind_some, i6, j7, mm_i, e0, e1, e2, e3, e4, d0, d1, d2, d3, d4, r1, b3, b4, hj, h0]
theorem k_walkerOf (h : LW so bq L9 N9 xs Fq w) (hi : iq + 5 ≤ L9) (hL : L9 ≤ 2560) : ∃ (F9 : FS) (g9 : pwG) (w9 : pwW) (p5 p6 : Option Value), LW so bq L9 N9 xs F9 w9 ∧ (g9.2.2.1 ≤ g.2.2.1 + 1 ∧ g9.2.2.2 ≤ g.2.2.2 + 6) ∧ pwX so 243 346 [some (.ref bq), some (.ref N9), some (.ref (N9 + 280)), some (.ref (N9 + 290)), some (.int (zN iq)), o5, o6] [] g w = pwX so 243 23 [some (.ref bq), some (.ref N9), some (.ref (N9 + 280)), some (.ref (N9 + 290)), some (.int (zN (iq + 5))), p5, p6] [] g9 w9 := by
  obtain ⟨hC, ⟨sc, Rq, hM, hR⟩, ⟨fz, hO⟩, hb, hbN, hs⟩ := h
  obtain ⟨w1, a1, a2, a3⟩ := x_walkerOf (so := so) (g := g) (xx := N9) (w := w) (Fq := Fq) (kq := (xs (iq + 1))) (pq := (xs (iq + 2))) hC
  have i6 : pwIsC w N9 6 = true := ci_ hC.1
  have hO1 : w1 (N9 + 290) = .inl (1, 1, .inr (.inl fz)) := by rw [a2 _ (by omega)]; exact hO
  obtain ⟨e0, e1, e2, e3, e4⟩ := lds hb hi hL
  have hcd := cd_walkerOf (Fq := Fq) (kq := (xs (iq + 1))) (pq := (xs (iq + 2)))
  generalize hf : (fWalkerOf Fq (xs (iq + 1)) (xs (iq + 2))) = rv at *
  obtain ⟨cd, vq⟩ := rv
  dsimp only at a1 a3 hcd
  obtain ⟨g2, w2, f2, r1, r2, r3, r4, r5⟩ := lw_go (l_walkerOf i6 a3 hcd hO1) hO1
  have hfr : ∀ aq, aq < N9 ∨ (N9 + 280 ≤ aq ∧ aq ≠ N9 + 290) → w2 aq = w aq := fun aq ha => by rw [r3 aq (by omega)]; exact a2 aq (by omega)
  have hM2 : w2 = mkM (N9 + 280) sc Rq w2 := mkM_cong (fun aq c1 c2 => hfr aq (by omega)) hM
  obtain ⟨s1, R1, b1, b2, b3⟩ := y_walkerOf (so := so) (g := g2) (bq := N9 + 280) (w := w2) (sc := sc) (Rq := Rq) (Fq := Fq) (kq := (xs (iq + 1))) (pq := (xs (iq + 2))) hR
  have b4 := y_thrown (so := so) (g := g2) (bq := N9 + 280) (sc := s1) (Rq := R1) (w := w2)
  rw [hf] at b2 b3
  rw [b2] at b4
  rw [← hM2] at b3
  dsimp only at b3 b4
  have j7 : pwIsC w2 (N9 + 280) 7 = true := by rw [hM2]; exact mm_i
  have hb2 : w2 bq = .inl (4, L9, .inl xs) := by rw [hfr bq (by omega)]; exact hb
  obtain ⟨d0, d1, d2, d3, d4⟩ := lds hb2 hi hL
  have hO3 : mkM (N9 + 280) s1 R1 w2 (N9 + 290) = .inl (1, 1, .inr (.inl f2)) := by rw [mm_o (by omega)]; exact r4
  have hj := ldJ hO3
  refine ⟨Fq, g2, mkM (N9 + 280) s1 R1 w2, some (.int (zN cd)), some (.int vq), ?_, r2, ?_⟩
  · exact LW_mk (cls_fr (fun aq c1 c2 => r3 aq (by omega)) a1) b1 ⟨f2, r4⟩ hb2 hbN (soW_f2 hs (fun aq ha => hfr aq (Or.inl ha)))
  · by_cases h0 : cd = 0
    · rw [r5 h0] at hj
      rw [h0] at r1 b4 ⊢
      simp (disch := omega) only [s_L_law_346, s_L_law_347, s_L_law_348, s_L_law_350, s_L_law_351, s_L_law_352, s_L_law_353, s_L_law_354, s_L_law_356, s_L_law_357, s_L_law_358, s_L_law_359, s_L_law_360, s_L_law_363, s_L_law_365, s_L_law_366, s_L_law_367, s_L_law_369, s_L_law_370, s_L_law_371, s_L_law_372, s_L_law_373, s_L_law_375, s_L_law_376, s_L_law_377, s_L_law_378, s_L_law_381, s_L_law_383, s_L_law_384, s_L_law_387, s_L_law_389, s_L_law_392, s_L_law_393, s_L_law_394, s_L_law_396, s_L_law_399, s_L_law_400, s_L_law_401, s_L_law_402, s_L_law_404, s_L_law_405, s_L_law_406, s_L_law_409, s_L_law_410, s_L_law_411, s_L_law_1725, s_L_law_1728, zN_neg1, nL0, nL1, nL2, nL3, nL4, nL5, nL6, nL7, nL8, nL9, nL10, nL11, nL12, nL13, nL14, nL20, nL21, nL22, nL23, nL25, nL32, nL33, nL39, nL40, nL43, nL44, nL99, nL100, nL120, nL216, nL217, nL218, nL219, nL220, nL221, nL500, nL999, nL1000, nL10000, nL100000, sh33, zN_lt, zN_le, zN_eq, zN_ge0, zN_lt0, zN_nm, zN_mn, zN_mlt, zN_ltm, zN_lem, zN_mle, zN_m1, zN_m2, zN_addm, zN_ofNat, zN_beq, zN_add, zN_sub, zN_mul, zN_rem, qT_lt, qF_lt, qT_le, qF_le, qT_eq, qF_eq, ↓reduceIte, and_true, true_and, false_and, and_false, not_true_eq_false, not_false_eq_true, decide_true, decide_false, Bool.true_or, Bool.or_true, Bool.false_or, Bool.or_false, cond_true, cond_false, qbi, qb1, qb0, qAv, cond_true, Option.bind_some, i6, j7, mm_i, e0, e1, e2, e3, e4, d0, d1, d2, d3, d4, r1, b3, b4, hj, lcE0]
    · simp (disch := omega) only [s_L_law_346, s_L_law_347, s_L_law_348, s_L_law_350, s_L_law_351, s_L_law_352, s_L_law_353, s_L_law_354, s_L_law_356, s_L_law_357, s_L_law_358, s_L_law_359, s_L_law_360, s_L_law_363, s_L_law_365, s_L_law_366, s_L_law_367, s_L_law_369, s_L_law_370, s_L_law_371, s_L_law_372, s_L_law_373, s_L_law_375, s_L_law_376, s_L_law_377, s_L_law_378, s_L_law_381, s_L_law_383, s_L_law_384, s_L_law_387, s_L_law_389, s_L_law_392, s_L_law_393, s_L_law_394, s_L_law_396, s_L_law_399, s_L_law_400, s_L_law_401, s_L_law_402, s_L_law_404, s_L_law_405, s_L_law_406, s_L_law_409, s_L_law_410, s_L_law_411, s_L_law_1725, s_L_law_1728, zN_neg1, nL0, nL1, nL2, nL3, nL4, nL5, nL6, nL7, nL8, nL9, nL10, nL11, nL12, nL13, nL14, nL20, nL21, nL22, nL23, nL25, nL32, nL33, nL39, nL40, nL43, nL44, nL99, nL100, nL120, nL216, nL217, nL218, nL219, nL220, nL221, nL500, nL999, nL1000, nL10000, nL100000, sh33, zN_lt, zN_le, zN_eq, zN_ge0, zN_lt0, zN_nm, zN_mn, zN_mlt, zN_ltm, zN_lem, zN_mle, zN_m1, zN_m2, zN_addm, zN_ofNat, zN_beq, zN_add, zN_sub, zN_mul, zN_rem, qT_lt, qF_lt, qT_le, qF_le, qT_eq, qF_eq, ↓reduceIte, and_true, true_and, false_and, and_false, not_true_eq_false, not_false_eq_true, decide_true, decide_false, Bool.true_or, Bool.or_true, Bool.false_or, Bool.or_false, cond_true, cond_false, qbi, qb1, qb0, qAv, cond_true, Option.bind_some, i6, j7, mm_i, e0, e1, e2, e3, e4, d0, d1, d2, d3, d4, r1, b3, b4, hj, h0]
theorem k_streetOf (h : LW so bq L9 N9 xs Fq w) (hi : iq + 5 ≤ L9) (hL : L9 ≤ 2560) : ∃ (F9 : FS) (g9 : pwG) (w9 : pwW) (p5 p6 : Option Value), LW so bq L9 N9 xs F9 w9 ∧ (g9.2.2.1 ≤ g.2.2.1 + 1 ∧ g9.2.2.2 ≤ g.2.2.2 + 6) ∧ pwX so 243 414 [some (.ref bq), some (.ref N9), some (.ref (N9 + 280)), some (.ref (N9 + 290)), some (.int (zN iq)), o5, o6] [] g w = pwX so 243 23 [some (.ref bq), some (.ref N9), some (.ref (N9 + 280)), some (.ref (N9 + 290)), some (.int (zN (iq + 5))), p5, p6] [] g9 w9 := by
  obtain ⟨hC, ⟨sc, Rq, hM, hR⟩, ⟨fz, hO⟩, hb, hbN, hs⟩ := h
  obtain ⟨w1, a1, a2, a3⟩ := x_streetOf (so := so) (g := g) (xx := N9) (w := w) (Fq := Fq) (kq := (xs (iq + 1))) (pq := (xs (iq + 2))) hC
  have i6 : pwIsC w N9 6 = true := ci_ hC.1
  have hO1 : w1 (N9 + 290) = .inl (1, 1, .inr (.inl fz)) := by rw [a2 _ (by omega)]; exact hO
  obtain ⟨e0, e1, e2, e3, e4⟩ := lds hb hi hL
  have hcd := cd_streetOf (Fq := Fq) (kq := (xs (iq + 1))) (pq := (xs (iq + 2)))
  generalize hf : (fStreetOf Fq (xs (iq + 1)) (xs (iq + 2))) = rv at *
  obtain ⟨cd, vq⟩ := rv
  dsimp only at a1 a3 hcd
  obtain ⟨g2, w2, f2, r1, r2, r3, r4, r5⟩ := lw_go (l_streetOf i6 a3 hcd hO1) hO1
  have hfr : ∀ aq, aq < N9 ∨ (N9 + 280 ≤ aq ∧ aq ≠ N9 + 290) → w2 aq = w aq := fun aq ha => by rw [r3 aq (by omega)]; exact a2 aq (by omega)
  have hM2 : w2 = mkM (N9 + 280) sc Rq w2 := mkM_cong (fun aq c1 c2 => hfr aq (by omega)) hM
  obtain ⟨s1, R1, b1, b2, b3⟩ := y_streetOf (so := so) (g := g2) (bq := N9 + 280) (w := w2) (sc := sc) (Rq := Rq) (Fq := Fq) (kq := (xs (iq + 1))) (pq := (xs (iq + 2))) hR
  have b4 := y_thrown (so := so) (g := g2) (bq := N9 + 280) (sc := s1) (Rq := R1) (w := w2)
  rw [hf] at b2 b3
  rw [b2] at b4
  rw [← hM2] at b3
  dsimp only at b3 b4
  have j7 : pwIsC w2 (N9 + 280) 7 = true := by rw [hM2]; exact mm_i
  have hb2 : w2 bq = .inl (4, L9, .inl xs) := by rw [hfr bq (by omega)]; exact hb
  obtain ⟨d0, d1, d2, d3, d4⟩ := lds hb2 hi hL
  have hO3 : mkM (N9 + 280) s1 R1 w2 (N9 + 290) = .inl (1, 1, .inr (.inl f2)) := by rw [mm_o (by omega)]; exact r4
  have hj := ldJ hO3
  refine ⟨Fq, g2, mkM (N9 + 280) s1 R1 w2, some (.int (zN cd)), some (.int vq), ?_, r2, ?_⟩
  · exact LW_mk (cls_fr (fun aq c1 c2 => r3 aq (by omega)) a1) b1 ⟨f2, r4⟩ hb2 hbN (soW_f2 hs (fun aq ha => hfr aq (Or.inl ha)))
  · by_cases h0 : cd = 0
    · rw [r5 h0] at hj
      rw [h0] at r1 b4 ⊢
      simp (disch := omega) only [s_L_law_414, s_L_law_415, s_L_law_416, s_L_law_418, s_L_law_419, s_L_law_420, s_L_law_421, s_L_law_422, s_L_law_424, s_L_law_425, s_L_law_426, s_L_law_427, s_L_law_428, s_L_law_431, s_L_law_433, s_L_law_434, s_L_law_435, s_L_law_437, s_L_law_438, s_L_law_439, s_L_law_440, s_L_law_441, s_L_law_443, s_L_law_444, s_L_law_445, s_L_law_446, s_L_law_449, s_L_law_451, s_L_law_452, s_L_law_455, s_L_law_457, s_L_law_460, s_L_law_461, s_L_law_462, s_L_law_464, s_L_law_467, s_L_law_468, s_L_law_469, s_L_law_470, s_L_law_472, s_L_law_473, s_L_law_474, s_L_law_477, s_L_law_478, s_L_law_479, s_L_law_1725, s_L_law_1728, zN_neg1, nL0, nL1, nL2, nL3, nL4, nL5, nL6, nL7, nL8, nL9, nL10, nL11, nL12, nL13, nL14, nL20, nL21, nL22, nL23, nL25, nL32, nL33, nL39, nL40, nL43, nL44, nL99, nL100, nL120, nL216, nL217, nL218, nL219, nL220, nL221, nL500, nL999, nL1000, nL10000, nL100000, sh33, zN_lt, zN_le, zN_eq, zN_ge0, zN_lt0, zN_nm, zN_mn, zN_mlt, zN_ltm, zN_lem, zN_mle, zN_m1, zN_m2, zN_addm, zN_ofNat, zN_beq, zN_add, zN_sub, zN_mul, zN_rem, qT_lt, qF_lt, qT_le, qF_le, qT_eq, qF_eq, ↓reduceIte, and_true, true_and, false_and, and_false, not_true_eq_false, not_false_eq_true, decide_true, decide_false, Bool.true_or, Bool.or_true, Bool.false_or, Bool.or_false, cond_true, cond_false, qbi, qb1, qb0, qAv, cond_true, Option.bind_some, i6, j7, mm_i, e0, e1, e2, e3, e4, d0, d1, d2, d3, d4, r1, b3, b4, hj, lcE0]
    · simp (disch := omega) only [s_L_law_414, s_L_law_415, s_L_law_416, s_L_law_418, s_L_law_419, s_L_law_420, s_L_law_421, s_L_law_422, s_L_law_424, s_L_law_425, s_L_law_426, s_L_law_427, s_L_law_428, s_L_law_431, s_L_law_433, s_L_law_434, s_L_law_435, s_L_law_437, s_L_law_438, s_L_law_439, s_L_law_440, s_L_law_441, s_L_law_443, s_L_law_444, s_L_law_445, s_L_law_446, s_L_law_449, s_L_law_451, s_L_law_452, s_L_law_455, s_L_law_457, s_L_law_460, s_L_law_461, s_L_law_462, s_L_law_464, s_L_law_467, s_L_law_468, s_L_law_469, s_L_law_470, s_L_law_472, s_L_law_473, s_L_law_474, s_L_law_477, s_L_law_478, s_L_law_479, s_L_law_1725, s_L_law_1728, zN_neg1, nL0, nL1, nL2, nL3, nL4, nL5, nL6, nL7, nL8, nL9, nL10, nL11, nL12, nL13, nL14, nL20, nL21, nL22, nL23, nL25, nL32, nL33, nL39, nL40, nL43, nL44, nL99, nL100, nL120, nL216, nL217, nL218, nL219, nL220, nL221, nL500, nL999, nL1000, nL10000, nL100000, sh33, zN_lt, zN_le, zN_eq, zN_ge0, zN_lt0, zN_nm, zN_mn, zN_mlt, zN_ltm, zN_lem, zN_mle, zN_m1, zN_m2, zN_addm, zN_ofNat, zN_beq, zN_add, zN_sub, zN_mul, zN_rem, qT_lt, qF_lt, qT_le, qF_le, qT_eq, qF_eq, ↓reduceIte, and_true, true_and, false_and, and_false, not_true_eq_false, not_false_eq_true, decide_true, decide_false, Bool.true_or, Bool.or_true, Bool.false_or, Bool.or_false, cond_true, cond_false, qbi, qb1, qb0, qAv, cond_true, Option.bind_some, i6, j7, mm_i, e0, e1, e2, e3, e4, d0, d1, d2, d3, d4, r1, b3, b4, hj, h0]
end QA

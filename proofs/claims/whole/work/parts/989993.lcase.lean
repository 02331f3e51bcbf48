/-! the pure part: the law's cases 14 to 20 -/
section QA
variable {so : Nat → Nat} {g : pwG} {bq L9 N9 iq : Nat} {w : pwW} {xs : Nat → Int32} {Fq : FS} {o5 o6 : Option Value}
theorem k_exchange (h : LW so bq L9 N9 xs Fq w) (hi : iq + 5 ≤ L9) (hL : L9 ≤ 2560) : ∃ (F9 : FS) (g9 : pwG) (w9 : pwW) (p5 p6 : Option Value), LW so bq L9 N9 xs F9 w9 ∧ (g9.2.2.1 ≤ g.2.2.1 + 1 ∧ g9.2.2.2 ≤ g.2.2.2 + 6) ∧ pwX so 243 958 [some (.ref bq), some (.ref N9), some (.ref (N9 + 280)), some (.ref (N9 + 290)), some (.int (zN iq)), o5, o6] [] g w = pwX so 243 23 [some (.ref bq), some (.ref N9), some (.ref (N9 + 280)), some (.ref (N9 + 290)), some (.int (zN (iq + 5))), p5, p6] [] g9 w9 := by
  obtain ⟨hC, ⟨sc, Rq, hM, hR⟩, ⟨fz, hO⟩, hb, hbN, hs⟩ := h
  obtain ⟨w1, a1, a2, a3⟩ := x_exch (so := so) (g := g) (xx := N9) (w := w) (Fq := Fq) (kq := (xs (iq + 1))) (pq := (xs (iq + 2))) hC
  have i6 : pwIsC w N9 6 = true := ci_ hC.1
  have hO1 : w1 (N9 + 290) = .inl (1, 1, .inr (.inl fz)) := by rw [a2 _ (by omega)]; exact hO
  obtain ⟨e0, e1, e2, e3, e4⟩ := lds hb hi hL
  have hcd := cd_exchange (Fq := Fq) (kq := (xs (iq + 1))) (pq := (xs (iq + 2)))
  generalize hf : (fExch Fq (xs (iq + 1)) (xs (iq + 2))) = rv at *
  obtain ⟨⟨cd, vq⟩, F9⟩ := rv
  dsimp only at a1 a3 hcd
  obtain ⟨g2, w2, f2, r1, r2, r3, r4, r5⟩ := lw_go (l_exchange i6 a3 hcd hO1) hO1
  have hfr : ∀ aq, aq < N9 ∨ (N9 + 280 ≤ aq ∧ aq ≠ N9 + 290) → w2 aq = w aq := fun aq ha => by rw [r3 aq (by omega)]; exact a2 aq (by omega)
  have hM2 : w2 = mkM (N9 + 280) sc Rq w2 := mkM_cong (fun aq c1 c2 => hfr aq (by omega)) hM
  obtain ⟨s1, R1, b1, b2, b3⟩ := y_exch (so := so) (g := g2) (bq := N9 + 280) (w := w2) (sc := sc) (Rq := Rq) (Fq := Fq) (kq := (xs (iq + 1))) (pq := (xs (iq + 2))) hR
  have b4 := y_thrown (so := so) (g := g2) (bq := N9 + 280) (sc := s1) (Rq := R1) (w := w2)
  rw [hf] at b1 b2 b3
  rw [b2] at b4
  rw [← hM2] at b3
  dsimp only at b3 b4
  have j7 : pwIsC w2 (N9 + 280) 7 = true := by rw [hM2]; exact mm_i
  have hb2 : w2 bq = .inl (4, L9, .inl xs) := by rw [hfr bq (by omega)]; exact hb
  obtain ⟨d0, d1, d2, d3, d4⟩ := lds hb2 hi hL
  have hO3 : mkM (N9 + 280) s1 R1 w2 (N9 + 290) = .inl (1, 1, .inr (.inl f2)) := by rw [mm_o (by omega)]; exact r4
  have hj := ldJ hO3
  refine ⟨F9, g2, mkM (N9 + 280) s1 R1 w2, some (.int (zN cd)), some (.int vq), ?_, r2, ?_⟩
  · exact LW_mk (cls_fr (fun aq c1 c2 => r3 aq (by omega)) a1) b1 ⟨f2, r4⟩ hb2 hbN (soW_f2 hs (fun aq ha => hfr aq (Or.inl ha)))
  · by_cases h0 : cd = 0
    · rw [r5 h0] at hj
      rw [h0] at r1 b4 ⊢
      simp (disch := omega) only [s_L_law_958, s_L_law_959, s_L_law_960, s_L_law_962, s_L_law_963, s_L_law_964, s_L_law_965, s_L_law_966, s_L_law_968, s_L_law_969, s_L_law_970, s_L_law_971, s_L_law_972, s_L_law_975, s_L_law_977, s_L_law_978, s_L_law_979, s_L_law_981, s_L_law_982, s_L_law_983, s_L_law_984, s_L_law_985, s_L_law_987, s_L_law_988, s_L_law_989, s_L_law_990, s_L_law_993, s_L_law_995, s_L_law_996, s_L_law_999, s_L_law_1001, s_L_law_1004, s_L_law_1005, s_L_law_1006, s_L_law_1008, s_L_law_1011, s_L_law_1012, s_L_law_1013, s_L_law_1014, s_L_law_1016, s_L_law_1017, s_L_law_1018, s_L_law_1021, s_L_law_1022, s_L_law_1023, s_L_law_1725, s_L_law_1728, zN_neg1, nL0, nL1, nL2, nL3, nL4, nL5, nL6, nL7, nL8, nL9, nL10, nL11, nL12, nL13, nL14, nL20, nL21, nL22, nL23, nL25, nL32, nL33, nL39, nL40, nL43, nL44, nL99, nL100, nL120, nL216, nL217, nL218, nL219, nL220, nL221, nL500, nL999, nL1000, nL10000, nL100000, sh33, zN_lt, zN_le, zN_eq, zN_ge0, zN_lt0, zN_nm, zN_mn, zN_mlt, zN_ltm, zN_lem, zN_mle, zN_m1, zN_m2, zN_addm, zN_ofNat, zN_beq, zN_add, zN_sub, zN_mul, zN_rem, qT_lt, qF_lt, qT_le, qF_le, qT_eq, qF_eq, ↓reduceIte, and_true, true_and, false_and, and_false, not_true_eq_false, not_false_eq_true, decide_true, decide_false, Bool.true_or, Bool.or_true, Bool.false_or, Bool.or_false, cond_true, cond_false, qbi, qb1, qb0, qAv, cond_true, Option.bind_some, i6, j7, mm_i, e0, e1, e2, e3, e4, d0, d1, d2, d3, d4, r1, b3, b4, hj, lcE0]
    · simp (disch := omega) only [s_L_law_958, s_L_law_959, s_L_law_960, s_L_law_962, s_L_law_963, s_L_law_964, s_L_law_965, s_L_law_966, s_L_law_968, s_L_law_969, s_L_law_970, s_L_law_971, s_L_law_972, s_L_law_975, s_L_law_977, s_L_law_978, s_L_law_979, s_L_law_981, s_L_law_982, s_L_law_983, s_L_law_984, s_L_law_985, s_L_law_987, s_L_law_988, s_L_law_989, s_L_law_990, s_L_law_993, s_L_law_995, s_L_law_996, s_L_law_999, s_L_law_1001, s_L_law_1004, s_L_law_1005, s_L_law_1006, s_L_law_1008, s_L_law_1011, s_L_law_1012, s_L_law_1013, s_L_law_1014, s_L_law_1016, s_L_law_1017, s_L_law_1018, s_L_law_1021, s_L_law_1022, s_L_law_1023, s_L_law_1725, s_L_law_1728, zN_neg1, nL0, nL1, nL2, nL3, nL4, nL5, nL6, nL7, nL8, nL9, nL10, nL11, nL12, nL13, nL14, nL20, nL21, nL22, nL23, nL25, nL32, nL33, nL39, nL40, nL43, nL44, nL99, nL100, nL120, nL216, nL217, nL218, nL219, nL220, nL221, nL500, nL999, nL1000, nL10000, nL100000, sh33, zN_lt, zN_le, zN_eq, zN_ge0, zN_lt0, zN_nm, zN_mn, zN_mlt, zN_ltm, zN_lem, zN_mle, zN_m1, zN_m2, zN_addm, zN_ofNat, zN_beq, zN_add, zN_sub, zN_mul, zN_rem, qT_lt, qF_lt, qT_le, qF_le, qT_eq, qF_eq, ↓reduceIte, and_true, true_and, false_and, and_false, not_true_eq_false, not_false_eq_true, decide_true, decide_false, Bool.true_or, Bool.or_true, Bool.false_or, Bool.or_false, cond_true, cond_false, qbi, qb1, qb0, qAv, cond_true, Option.bind_some, i6, j7, mm_i, e0, e1, e2, e3, e4, d0, d1, d2, d3, d4, r1, b3, b4, hj, h0]
theorem k_back (h : LW so bq L9 N9 xs Fq w) (hi : iq + 5 ≤ L9) (hL : L9 ≤ 2560) : ∃ (F9 : FS) (g9 : pwG) (w9 : pwW) (p5 p6 : Option Value), LW so bq L9 N9 xs F9 w9 ∧ (g9.2.2.1 ≤ g.2.2.1 + 1 ∧ g9.2.2.2 ≤ g.2.2.2 + 6) ∧ pwX so 243 1026 [some (.ref bq), some (.ref N9), some (.ref (N9 + 280)), some (.ref (N9 + 290)), some (.int (zN iq)), o5, o6] [] g w = pwX so 243 23 [some (.ref bq), some (.ref N9), some (.ref (N9 + 280)), some (.ref (N9 + 290)), some (.int (zN (iq + 5))), p5, p6] [] g9 w9 := by
  obtain ⟨hC, ⟨sc, Rq, hM, hR⟩, ⟨fz, hO⟩, hb, hbN, hs⟩ := h
  obtain ⟨w1, a1, a2, a3⟩ := x_back (so := so) (g := g) (xx := N9) (w := w) (Fq := Fq)  hC
  have i6 : pwIsC w N9 6 = true := ci_ hC.1
  have hO1 : w1 (N9 + 290) = .inl (1, 1, .inr (.inl fz)) := by rw [a2 _ (by omega)]; exact hO
  obtain ⟨e0, e1, e2, e3, e4⟩ := lds hb hi hL
  have hfr : ∀ aq, aq < N9 ∨ N9 + 280 ≤ aq → w1 aq = w aq := a2
  have hM2 : w1 = mkM (N9 + 280) sc Rq w1 := mkM_cong (fun aq c1 c2 => hfr aq (by omega)) hM
  obtain ⟨s1, R1, b1, b2, b3⟩ := y_back (so := so) (g := g) (bq := N9 + 280) (w := w1) (sc := sc) (Rq := Rq) (Fq := Fq)  hR
  rw [← hM2] at b3
  have j7 : pwIsC w1 (N9 + 280) 7 = true := by rw [hM2]; exact mm_i
  have hb2 : w1 bq = .inl (4, L9, .inl xs) := by rw [hfr bq (by omega)]; exact hb
  have a3 : pwX so 111 0 [some (.ref N9)] [] g w = some (.inl (some (.int (fBack Fq).1.2)), g, w1) := a3
  refine ⟨_, g, mkM (N9 + 280) s1 R1 w1, o5, o6, LW_mk a1 b1 ⟨fz, hO1⟩ hb2 hbN (soW_f2 hs (fun aq ha => hfr aq (Or.inl ha))), ⟨Nat.le_succ _, Nat.le_add_right _ _⟩, ?_⟩
  generalize (fBack Fq).1.2 = v9 at a3 b3
  simp (disch := omega) only [s_L_law_1026, s_L_law_1027, s_L_law_1030, s_L_law_1031, s_L_law_1034, s_L_law_1037, s_L_law_1038, s_L_law_1725, s_L_law_1728, zN_neg1, nL0, nL1, nL2, nL3, nL4, nL5, nL6, nL7, nL8, nL9, nL10, nL11, nL12, nL13, nL14, nL20, nL21, nL22, nL23, nL25, nL32, nL33, nL39, nL40, nL43, nL44, nL99, nL100, nL120, nL216, nL217, nL218, nL219, nL220, nL221, nL500, nL999, nL1000, nL10000, nL100000, sh33, zN_lt, zN_le, zN_eq, zN_ge0, zN_lt0, zN_nm, zN_mn, zN_mlt, zN_ltm, zN_lem, zN_mle, zN_m1, zN_m2, zN_addm, zN_ofNat, zN_beq, zN_add, zN_sub, zN_mul, zN_rem, qT_lt, qF_lt, qT_le, qF_le, qT_eq, qF_eq, ↓reduceIte, and_true, true_and, false_and, and_false, not_true_eq_false, not_false_eq_true, decide_true, decide_false, Bool.true_or, Bool.or_true, Bool.false_or, Bool.or_false, cond_true, cond_false, qbi, qb1, qb0, qAv, cond_true, Option.bind_some, i6, j7, mm_i, a3, b3]
theorem k_set (h : LW so bq L9 N9 xs Fq w) (hi : iq + 5 ≤ L9) (hL : L9 ≤ 2560) : ∃ (F9 : FS) (g9 : pwG) (w9 : pwW) (p5 p6 : Option Value), LW so bq L9 N9 xs F9 w9 ∧ (g9.2.2.1 ≤ g.2.2.1 + 1 ∧ g9.2.2.2 ≤ g.2.2.2 + 6) ∧ pwX so 243 1039 [some (.ref bq), some (.ref N9), some (.ref (N9 + 280)), some (.ref (N9 + 290)), some (.int (zN iq)), o5, o6] [] g w = pwX so 243 23 [some (.ref bq), some (.ref N9), some (.ref (N9 + 280)), some (.ref (N9 + 290)), some (.int (zN (iq + 5))), p5, p6] [] g9 w9 := by
  obtain ⟨hC, ⟨sc, Rq, hM, hR⟩, ⟨fz, hO⟩, hb, hbN, hs⟩ := h
  obtain ⟨w1, a1, a2, a3⟩ := x_set (so := so) (g := g) (xx := N9) (w := w) (Fq := Fq) (kq := (xs (iq + 1))) (pq := (xs (iq + 2))) hC
  have i6 : pwIsC w N9 6 = true := ci_ hC.1
  have hO1 : w1 (N9 + 290) = .inl (1, 1, .inr (.inl fz)) := by rw [a2 _ (by omega)]; exact hO
  obtain ⟨e0, e1, e2, e3, e4⟩ := lds hb hi hL
  have hcd := cd_set (Fq := Fq) (kq := (xs (iq + 1))) (pq := (xs (iq + 2)))
  generalize hf : (fSet Fq (xs (iq + 1)) (xs (iq + 2))) = rv at *
  obtain ⟨⟨cd, vq⟩, F9⟩ := rv
  dsimp only at a1 a3 hcd
  obtain ⟨g2, w2, f2, r1, r2, r3, r4, r5⟩ := lw_go (l_set i6 a3 hcd hO1) hO1
  have hfr : ∀ aq, aq < N9 ∨ (N9 + 280 ≤ aq ∧ aq ≠ N9 + 290) → w2 aq = w aq := fun aq ha => by rw [r3 aq (by omega)]; exact a2 aq (by omega)
  have hM2 : w2 = mkM (N9 + 280) sc Rq w2 := mkM_cong (fun aq c1 c2 => hfr aq (by omega)) hM
  obtain ⟨s1, R1, b1, b2, b3⟩ := y_set (so := so) (g := g2) (bq := N9 + 280) (w := w2) (sc := sc) (Rq := Rq) (Fq := Fq) (kq := (xs (iq + 1))) (pq := (xs (iq + 2))) hR
  have b4 := y_thrown (so := so) (g := g2) (bq := N9 + 280) (sc := s1) (Rq := R1) (w := w2)
  rw [hf] at b1 b2 b3
  rw [b2] at b4
  rw [← hM2] at b3
  dsimp only at b3 b4
  have j7 : pwIsC w2 (N9 + 280) 7 = true := by rw [hM2]; exact mm_i
  have hb2 : w2 bq = .inl (4, L9, .inl xs) := by rw [hfr bq (by omega)]; exact hb
  obtain ⟨d0, d1, d2, d3, d4⟩ := lds hb2 hi hL
  have hO3 : mkM (N9 + 280) s1 R1 w2 (N9 + 290) = .inl (1, 1, .inr (.inl f2)) := by rw [mm_o (by omega)]; exact r4
  have hj := ldJ hO3
  refine ⟨F9, g2, mkM (N9 + 280) s1 R1 w2, some (.int (zN cd)), some (.int vq), ?_, r2, ?_⟩
  · exact LW_mk (cls_fr (fun aq c1 c2 => r3 aq (by omega)) a1) b1 ⟨f2, r4⟩ hb2 hbN (soW_f2 hs (fun aq ha => hfr aq (Or.inl ha)))
  · by_cases h0 : cd = 0
    · rw [r5 h0] at hj
      rw [h0] at r1 b4 ⊢
      simp (disch := omega) only [s_L_law_1039, s_L_law_1040, s_L_law_1041, s_L_law_1043, s_L_law_1044, s_L_law_1045, s_L_law_1046, s_L_law_1047, s_L_law_1049, s_L_law_1050, s_L_law_1051, s_L_law_1052, s_L_law_1053, s_L_law_1056, s_L_law_1058, s_L_law_1059, s_L_law_1060, s_L_law_1062, s_L_law_1063, s_L_law_1064, s_L_law_1065, s_L_law_1066, s_L_law_1068, s_L_law_1069, s_L_law_1070, s_L_law_1071, s_L_law_1074, s_L_law_1076, s_L_law_1077, s_L_law_1080, s_L_law_1082, s_L_law_1085, s_L_law_1086, s_L_law_1087, s_L_law_1089, s_L_law_1092, s_L_law_1093, s_L_law_1094, s_L_law_1095, s_L_law_1097, s_L_law_1098, s_L_law_1099, s_L_law_1102, s_L_law_1103, s_L_law_1104, s_L_law_1725, s_L_law_1728, zN_neg1, nL0, nL1, nL2, nL3, nL4, nL5, nL6, nL7, nL8, nL9, nL10, nL11, nL12, nL13, nL14, nL20, nL21, nL22, nL23, nL25, nL32, nL33, nL39, nL40, nL43, nL44, nL99, nL100, nL120, nL216, nL217, nL218, nL219, nL220, nL221, nL500, nL999, nL1000, nL10000, nL100000, sh33, zN_lt, zN_le, zN_eq, zN_ge0, zN_lt0, zN_nm, zN_mn, zN_mlt, zN_ltm, zN_lem, zN_mle, zN_m1, zN_m2, zN_addm, zN_ofNat, zN_beq, zN_add, zN_sub, zN_mul, zN_rem, qT_lt, qF_lt, qT_le, qF_le, qT_eq, qF_eq, ↓reduceIte, and_true, true_and, false_and, and_false, not_true_eq_false, not_false_eq_true, decide_true, decide_false, Bool.true_or, Bool.or_true, Bool.false_or, Bool.or_false, cond_true, cond_false, qbi, qb1, qb0, qAv, cond_true, Option.bind_some, i6, j7, mm_i, e0, e1, e2, e3, e4, d0, d1, d2, d3, d4, r1, b3, b4, hj, lcE0]
    · simp (disch := omega) only [s_L_law_1039, s_L_law_1040, s_L_law_1041, s_L_law_1043, s_L_law_1044, s_L_law_1045, s_L_law_1046, s_L_law_1047, s_L_law_1049, s_L_law_1050, s_L_law_1051, s_L_law_1052, s_L_law_1053, s_L_law_1056, s_L_law_1058, s_L_law_1059, s_L_law_1060, s_L_law_1062, s_L_law_1063, s_L_law_1064, s_L_law_1065, s_L_law_1066, s_L_law_1068, s_L_law_1069, s_L_law_1070, s_L_law_1071, s_L_law_1074, s_L_law_1076, s_L_law_1077, s_L_law_1080, s_L_law_1082, s_L_law_1085, s_L_law_1086, s_L_law_1087, s_L_law_1089, s_L_law_1092, s_L_law_1093, s_L_law_1094, s_L_law_1095, s_L_law_1097, s_L_law_1098, s_L_law_1099, s_L_law_1102, s_L_law_1103, s_L_law_1104, s_L_law_1725, s_L_law_1728, zN_neg1, nL0, nL1, nL2, nL3, nL4, nL5, nL6, nL7, nL8, nL9, nL10, nL11, nL12, nL13, nL14, nL20, nL21, nL22, nL23, nL25, nL32, nL33, nL39, nL40, nL43, nL44, nL99, nL100, nL120, nL216, nL217, nL218, nL219, nL220, nL221, nL500, nL999, nL1000, nL10000, nL100000, sh33, zN_lt, zN_le, zN_eq, zN_ge0, zN_lt0, zN_nm, zN_mn, zN_mlt, zN_ltm, zN_lem, zN_mle, zN_m1, zN_m2, zN_addm, zN_ofNat, zN_beq, zN_add, zN_sub, zN_mul, zN_rem, qT_lt, qF_lt, qT_le, qF_le, qT_eq, qF_eq, ↓reduceIte, and_true, true_and, false_and, and_false, not_true_eq_false, not_false_eq_true, decide_true, decide_false, Bool.true_or, Bool.or_true, Bool.false_or, Bool.or_false, cond_true, cond_false, qbi, qb1, qb0, qAv, cond_true, Option.bind_some, i6, j7, mm_i, e0, e1, e2, e3, e4, d0, d1, d2, d3, d4, r1, b3, b4, hj, h0]
theorem k_ticks (h : LW so bq L9 N9 xs Fq w) (hi : iq + 5 ≤ L9) (hL : L9 ≤ 2560) : ∃ (F9 : FS) (g9 : pwG) (w9 : pwW) (p5 p6 : Option Value), LW so bq L9 N9 xs F9 w9 ∧ (g9.2.2.1 ≤ g.2.2.1 + 1 ∧ g9.2.2.2 ≤ g.2.2.2 + 6) ∧ pwX so 243 1107 [some (.ref bq), some (.ref N9), some (.ref (N9 + 280)), some (.ref (N9 + 290)), some (.int (zN iq)), o5, o6] [] g w = pwX so 243 23 [some (.ref bq), some (.ref N9), some (.ref (N9 + 280)), some (.ref (N9 + 290)), some (.int (zN (iq + 5))), p5, p6] [] g9 w9 := by
  obtain ⟨hC, ⟨sc, Rq, hM, hR⟩, ⟨fz, hO⟩, hb, hbN, hs⟩ := h
  obtain ⟨w1, a1, a2, a3⟩ := x_ticks (so := so) (g := g) (xx := N9) (w := w) (Fq := Fq) (pq := (xs (iq + 1))) hC
  have i6 : pwIsC w N9 6 = true := ci_ hC.1
  have hO1 : w1 (N9 + 290) = .inl (1, 1, .inr (.inl fz)) := by rw [a2 _ (by omega)]; exact hO
  obtain ⟨e0, e1, e2, e3, e4⟩ := lds hb hi hL
  have hcd := cd_ticks (Fq := Fq) (pq := (xs (iq + 1)))
  generalize hf : (fTicks Fq (xs (iq + 1))) = rv at *
  obtain ⟨⟨cd, vq⟩, F9⟩ := rv
  dsimp only at a1 a3 hcd
  obtain ⟨g2, w2, f2, r1, r2, r3, r4, r5⟩ := lw_go (l_ticks i6 a3 hcd hO1) hO1
  have hfr : ∀ aq, aq < N9 ∨ (N9 + 280 ≤ aq ∧ aq ≠ N9 + 290) → w2 aq = w aq := fun aq ha => by rw [r3 aq (by omega)]; exact a2 aq (by omega)
  have hM2 : w2 = mkM (N9 + 280) sc Rq w2 := mkM_cong (fun aq c1 c2 => hfr aq (by omega)) hM
  obtain ⟨s1, R1, b1, b2, b3⟩ := y_ticks (so := so) (g := g2) (bq := N9 + 280) (w := w2) (sc := sc) (Rq := Rq) (Fq := Fq) (pq := (xs (iq + 1))) hR
  have b4 := y_thrown (so := so) (g := g2) (bq := N9 + 280) (sc := s1) (Rq := R1) (w := w2)
  rw [hf] at b1 b2 b3
  rw [b2] at b4
  rw [← hM2] at b3
  dsimp only at b3 b4
  have j7 : pwIsC w2 (N9 + 280) 7 = true := by rw [hM2]; exact mm_i
  have hb2 : w2 bq = .inl (4, L9, .inl xs) := by rw [hfr bq (by omega)]; exact hb
  obtain ⟨d0, d1, d2, d3, d4⟩ := lds hb2 hi hL
  have hO3 : mkM (N9 + 280) s1 R1 w2 (N9 + 290) = .inl (1, 1, .inr (.inl f2)) := by rw [mm_o (by omega)]; exact r4
  have hj := ldJ hO3
  refine ⟨F9, g2, mkM (N9 + 280) s1 R1 w2, some (.int (zN cd)), some (.int vq), ?_, r2, ?_⟩
  · exact LW_mk (cls_fr (fun aq c1 c2 => r3 aq (by omega)) a1) b1 ⟨f2, r4⟩ hb2 hbN (soW_f2 hs (fun aq ha => hfr aq (Or.inl ha)))
  · by_cases h0 : cd = 0
    · rw [r5 h0] at hj
      rw [h0] at r1 b4 ⊢
      simp (disch := omega) only [s_L_law_1107, s_L_law_1108, s_L_law_1109, s_L_law_1111, s_L_law_1112, s_L_law_1113, s_L_law_1114, s_L_law_1115, s_L_law_1118, s_L_law_1120, s_L_law_1121, s_L_law_1122, s_L_law_1124, s_L_law_1125, s_L_law_1126, s_L_law_1127, s_L_law_1130, s_L_law_1132, s_L_law_1133, s_L_law_1136, s_L_law_1138, s_L_law_1141, s_L_law_1142, s_L_law_1143, s_L_law_1145, s_L_law_1148, s_L_law_1149, s_L_law_1150, s_L_law_1151, s_L_law_1153, s_L_law_1154, s_L_law_1155, s_L_law_1158, s_L_law_1159, s_L_law_1160, s_L_law_1725, s_L_law_1728, zN_neg1, nL0, nL1, nL2, nL3, nL4, nL5, nL6, nL7, nL8, nL9, nL10, nL11, nL12, nL13, nL14, nL20, nL21, nL22, nL23, nL25, nL32, nL33, nL39, nL40, nL43, nL44, nL99, nL100, nL120, nL216, nL217, nL218, nL219, nL220, nL221, nL500, nL999, nL1000, nL10000, nL100000, sh33, zN_lt, zN_le, zN_eq, zN_ge0, zN_lt0, zN_nm, zN_mn, zN_mlt, zN_ltm, zN_lem, zN_mle, zN_m1, zN_m2, zN_addm, zN_ofNat, zN_beq, zN_add, zN_sub, zN_mul, zN_rem, qT_lt, qF_lt, qT_le, qF_le, qT_eq, qF_eq, ↓reduceIte, and_true, true_and, false_and, and_false, not_true_eq_false, not_false_eq_true, decide_true, decide_false, Bool.true_or, Bool.or_true, Bool.false_or, Bool.or_false, cond_true, cond_false, qbi, qb1, qb0, qAv, cond_true, Option.bind_some, i6, j7, mm_i, e0, e1, e2, e3, e4, d0, d1, d2, d3, d4, r1, b3, b4, hj, lcE0]
    · simp (disch := omega) only [s_L_law_1107, s_L_law_1108, s_L_law_1109, s_L_law_1111, s_L_law_1112, s_L_law_1113, s_L_law_1114, s_L_law_1115, s_L_law_1118, s_L_law_1120, s_L_law_1121, s_L_law_1122, s_L_law_1124, s_L_law_1125, s_L_law_1126, s_L_law_1127, s_L_law_1130, s_L_law_1132, s_L_law_1133, s_L_law_1136, s_L_law_1138, s_L_law_1141, s_L_law_1142, s_L_law_1143, s_L_law_1145, s_L_law_1148, s_L_law_1149, s_L_law_1150, s_L_law_1151, s_L_law_1153, s_L_law_1154, s_L_law_1155, s_L_law_1158, s_L_law_1159, s_L_law_1160, s_L_law_1725, s_L_law_1728, zN_neg1, nL0, nL1, nL2, nL3, nL4, nL5, nL6, nL7, nL8, nL9, nL10, nL11, nL12, nL13, nL14, nL20, nL21, nL22, nL23, nL25, nL32, nL33, nL39, nL40, nL43, nL44, nL99, nL100, nL120, nL216, nL217, nL218, nL219, nL220, nL221, nL500, nL999, nL1000, nL10000, nL100000, sh33, zN_lt, zN_le, zN_eq, zN_ge0, zN_lt0, zN_nm, zN_mn, zN_mlt, zN_ltm, zN_lem, zN_mle, zN_m1, zN_m2, zN_addm, zN_ofNat, zN_beq, zN_add, zN_sub, zN_mul, zN_rem, qT_lt, qF_lt, qT_le, qF_le, qT_eq, qF_eq, ↓reduceIte, and_true, true_and, false_and, and_false, not_true_eq_false, not_false_eq_true, decide_true, decide_false, Bool.true_or, Bool.or_true, Bool.false_or, Bool.or_false, cond_true, cond_false, qbi, qb1, qb0, qAv, cond_true, Option.bind_some, i6, j7, mm_i, e0, e1, e2, e3, e4, d0, d1, d2, d3, d4, r1, b3, b4, hj, h0]
theorem k_undo (h : LW so bq L9 N9 xs Fq w) (hi : iq + 5 ≤ L9) (hL : L9 ≤ 2560) : ∃ (F9 : FS) (g9 : pwG) (w9 : pwW) (p5 p6 : Option Value), LW so bq L9 N9 xs F9 w9 ∧ (g9.2.2.1 ≤ g.2.2.1 + 1 ∧ g9.2.2.2 ≤ g.2.2.2 + 6) ∧ pwX so 243 1163 [some (.ref bq), some (.ref N9), some (.ref (N9 + 280)), some (.ref (N9 + 290)), some (.int (zN iq)), o5, o6] [] g w = pwX so 243 23 [some (.ref bq), some (.ref N9), some (.ref (N9 + 280)), some (.ref (N9 + 290)), some (.int (zN (iq + 5))), p5, p6] [] g9 w9 := by
  obtain ⟨hC, ⟨sc, Rq, hM, hR⟩, ⟨fz, hO⟩, hb, hbN, hs⟩ := h
  obtain ⟨w1, a1, a2, a3⟩ := x_undo (so := so) (g := g) (xx := N9) (w := w) (Fq := Fq)  hC
  have i6 : pwIsC w N9 6 = true := ci_ hC.1
  have hO1 : w1 (N9 + 290) = .inl (1, 1, .inr (.inl fz)) := by rw [a2 _ (by omega)]; exact hO
  obtain ⟨e0, e1, e2, e3, e4⟩ := lds hb hi hL
  have hcd := cd_undo (Fq := Fq) 
  generalize hf : (fUndo Fq) = rv at *
  obtain ⟨⟨cd, vq⟩, F9⟩ := rv
  dsimp only at a1 a3 hcd
  obtain ⟨g2, w2, f2, r1, r2, r3, r4, r5⟩ := lw_go (l_undo i6 a3 hcd hO1) hO1
  have hfr : ∀ aq, aq < N9 ∨ (N9 + 280 ≤ aq ∧ aq ≠ N9 + 290) → w2 aq = w aq := fun aq ha => by rw [r3 aq (by omega)]; exact a2 aq (by omega)
  have hM2 : w2 = mkM (N9 + 280) sc Rq w2 := mkM_cong (fun aq c1 c2 => hfr aq (by omega)) hM
  obtain ⟨s1, R1, b1, b2, b3⟩ := y_undo (so := so) (g := g2) (bq := N9 + 280) (w := w2) (sc := sc) (Rq := Rq) (Fq := Fq)  hR
  have b4 := y_thrown (so := so) (g := g2) (bq := N9 + 280) (sc := s1) (Rq := R1) (w := w2)
  rw [hf] at b1 b2 b3
  rw [b2] at b4
  rw [← hM2] at b3
  dsimp only at b3 b4
  have j7 : pwIsC w2 (N9 + 280) 7 = true := by rw [hM2]; exact mm_i
  have hb2 : w2 bq = .inl (4, L9, .inl xs) := by rw [hfr bq (by omega)]; exact hb
  obtain ⟨d0, d1, d2, d3, d4⟩ := lds hb2 hi hL
  have hO3 : mkM (N9 + 280) s1 R1 w2 (N9 + 290) = .inl (1, 1, .inr (.inl f2)) := by rw [mm_o (by omega)]; exact r4
  have hj := ldJ hO3
  refine ⟨F9, g2, mkM (N9 + 280) s1 R1 w2, some (.int (zN cd)), some (.int vq), ?_, r2, ?_⟩
  · exact LW_mk (cls_fr (fun aq c1 c2 => r3 aq (by omega)) a1) b1 ⟨f2, r4⟩ hb2 hbN (soW_f2 hs (fun aq ha => hfr aq (Or.inl ha)))
  · by_cases h0 : cd = 0
    · rw [r5 h0] at hj
      rw [h0] at r1 b4 ⊢
      simp (disch := omega) only [s_L_law_1163, s_L_law_1164, s_L_law_1165, s_L_law_1168, s_L_law_1170, s_L_law_1171, s_L_law_1174, s_L_law_1176, s_L_law_1177, s_L_law_1180, s_L_law_1182, s_L_law_1185, s_L_law_1186, s_L_law_1187, s_L_law_1189, s_L_law_1192, s_L_law_1193, s_L_law_1194, s_L_law_1195, s_L_law_1197, s_L_law_1198, s_L_law_1199, s_L_law_1202, s_L_law_1203, s_L_law_1204, s_L_law_1725, s_L_law_1728, zN_neg1, nL0, nL1, nL2, nL3, nL4, nL5, nL6, nL7, nL8, nL9, nL10, nL11, nL12, nL13, nL14, nL20, nL21, nL22, nL23, nL25, nL32, nL33, nL39, nL40, nL43, nL44, nL99, nL100, nL120, nL216, nL217, nL218, nL219, nL220, nL221, nL500, nL999, nL1000, nL10000, nL100000, sh33, zN_lt, zN_le, zN_eq, zN_ge0, zN_lt0, zN_nm, zN_mn, zN_mlt, zN_ltm, zN_lem, zN_mle, zN_m1, zN_m2, zN_addm, zN_ofNat, zN_beq, zN_add, zN_sub, zN_mul, zN_rem, qT_lt, qF_lt, qT_le, qF_le, qT_eq, qF_eq, ↓reduceIte, and_true, true_and, false_and, and_false, not_true_eq_false, not_false_eq_true, decide_true, decide_false, Bool.true_or, Bool.or_true, Bool.false_or, Bool.or_false, cond_true, cond_false, qbi, qb1, qb0, qAv, cond_true, Option.bind_some, i6, j7, mm_i, e0, e1, e2, e3, e4, d0, d1, d2, d3, d4, r1, b3, b4, hj, lcE0]
    · simp (disch := omega) only [s_L_law_1163, s_L_law_1164, s_L_law_1165, s_L_law_1168, s_L_law_1170, s_L_law_1171, s_L_law_1174, s_L_law_1176, s_L_law_1177, s_L_law_1180, s_L_law_1182, s_L_law_1185, s_L_law_1186, s_L_law_1187, s_L_law_1189, s_L_law_1192, s_L_law_1193, s_L_law_1194, s_L_law_1195, s_L_law_1197, s_L_law_1198, s_L_law_1199, s_L_law_1202, s_L_law_1203, s_L_law_1204, s_L_law_1725, s_L_law_1728, zN_neg1, nL0, nL1, nL2, nL3, nL4, nL5, nL6, nL7, nL8, nL9, nL10, nL11, nL12, nL13, nL14, nL20, nL21, nL22, nL23, nL25, nL32, nL33, nL39, nL40, nL43, nL44, nL99, nL100, nL120, nL216, nL217, nL218, nL219, nL220, nL221, nL500, nL999, nL1000, nL10000, nL100000, sh33, zN_lt, zN_le, zN_eq, zN_ge0, zN_lt0, zN_nm, zN_mn, zN_mlt, zN_ltm, zN_lem, zN_mle, zN_m1, zN_m2, zN_addm, zN_ofNat, zN_beq, zN_add, zN_sub, zN_mul, zN_rem, qT_lt, qF_lt, qT_le, qF_le, qT_eq, qF_eq, ↓reduceIte, and_true, true_and, false_and, and_false, not_true_eq_false, not_false_eq_true, decide_true, decide_false, Bool.true_or, Bool.or_true, Bool.false_or, Bool.or_false, cond_true, cond_false, qbi, qb1, qb0, qAv, cond_true, Option.bind_some, i6, j7, mm_i, e0, e1, e2, e3, e4, d0, d1, d2, d3, d4, r1, b3, b4, hj, h0]
theorem k_allIn (h : LW so bq L9 N9 xs Fq w) (hi : iq + 5 ≤ L9) (hL : L9 ≤ 2560) : ∃ (F9 : FS) (g9 : pwG) (w9 : pwW) (p5 p6 : Option Value), LW so bq L9 N9 xs F9 w9 ∧ (g9.2.2.1 ≤ g.2.2.1 + 1 ∧ g9.2.2.2 ≤ g.2.2.2 + 6) ∧ pwX so 243 1207 [some (.ref bq), some (.ref N9), some (.ref (N9 + 280)), some (.ref (N9 + 290)), some (.int (zN iq)), o5, o6] [] g w = pwX so 243 23 [some (.ref bq), some (.ref N9), some (.ref (N9 + 280)), some (.ref (N9 + 290)), some (.int (zN (iq + 5))), p5, p6] [] g9 w9 := by
  obtain ⟨hC, ⟨sc, Rq, hM, hR⟩, ⟨fz, hO⟩, hb, hbN, hs⟩ := h
  obtain ⟨w1, a1, a2, a3⟩ := x_allIn (so := so) (g := g) (xx := N9) (w := w) (Fq := Fq)  hC
  have i6 : pwIsC w N9 6 = true := ci_ hC.1
  have hO1 : w1 (N9 + 290) = .inl (1, 1, .inr (.inl fz)) := by rw [a2 _ (by omega)]; exact hO
  obtain ⟨e0, e1, e2, e3, e4⟩ := lds hb hi hL
  have hfr : ∀ aq, aq < N9 ∨ N9 + 280 ≤ aq → w1 aq = w aq := a2
  have hM2 : w1 = mkM (N9 + 280) sc Rq w1 := mkM_cong (fun aq c1 c2 => hfr aq (by omega)) hM
  obtain ⟨s1, R1, b1, b2, b3⟩ := y_allIn (so := so) (g := g) (bq := N9 + 280) (w := w1) (sc := sc) (Rq := Rq) (Fq := Fq)  hR
  rw [← hM2] at b3
  have j7 : pwIsC w1 (N9 + 280) 7 = true := by rw [hM2]; exact mm_i
  have hb2 : w1 bq = .inl (4, L9, .inl xs) := by rw [hfr bq (by omega)]; exact hb
  have a3 : pwX so 115 0 [some (.ref N9)] [] g w = some (.inl (some (.int (tIn 1000 0 Fq.2.1))), g, w1) := a3
  refine ⟨_, g, mkM (N9 + 280) s1 R1 w1, o5, o6, LW_mk a1 b1 ⟨fz, hO1⟩ hb2 hbN (soW_f2 hs (fun aq ha => hfr aq (Or.inl ha))), ⟨Nat.le_succ _, Nat.le_add_right _ _⟩, ?_⟩
  generalize (tIn 1000 0 Fq.2.1) = v9 at a3 b3
  simp (disch := omega) only [s_L_law_1207, s_L_law_1208, s_L_law_1211, s_L_law_1212, s_L_law_1215, s_L_law_1218, s_L_law_1219, s_L_law_1725, s_L_law_1728, zN_neg1, nL0, nL1, nL2, nL3, nL4, nL5, nL6, nL7, nL8, nL9, nL10, nL11, nL12, nL13, nL14, nL20, nL21, nL22, nL23, nL25, nL32, nL33, nL39, nL40, nL43, nL44, nL99, nL100, nL120, nL216, nL217, nL218, nL219, nL220, nL221, nL500, nL999, nL1000, nL10000, nL100000, sh33, zN_lt, zN_le, zN_eq, zN_ge0, zN_lt0, zN_nm, zN_mn, zN_mlt, zN_ltm, zN_lem, zN_mle, zN_m1, zN_m2, zN_addm, zN_ofNat, zN_beq, zN_add, zN_sub, zN_mul, zN_rem, qT_lt, qF_lt, qT_le, qF_le, qT_eq, qF_eq, ↓reduceIte, and_true, true_and, false_and, and_false, not_true_eq_false, not_false_eq_true, decide_true, decide_false, Bool.true_or, Bool.or_true, Bool.false_or, Bool.or_false, cond_true, cond_false, qbi, qb1, qb0, qAv, cond_true, Option.bind_some, i6, j7, mm_i, a3, b3]
theorem k_later (h : LW so bq L9 N9 xs Fq w) (hi : iq + 5 ≤ L9) (hL : L9 ≤ 2560) : ∃ (F9 : FS) (g9 : pwG) (w9 : pwW) (p5 p6 : Option Value), LW so bq L9 N9 xs F9 w9 ∧ (g9.2.2.1 ≤ g.2.2.1 + 1 ∧ g9.2.2.2 ≤ g.2.2.2 + 6) ∧ pwX so 243 1220 [some (.ref bq), some (.ref N9), some (.ref (N9 + 280)), some (.ref (N9 + 290)), some (.int (zN iq)), o5, o6] [] g w = pwX so 243 23 [some (.ref bq), some (.ref N9), some (.ref (N9 + 280)), some (.ref (N9 + 290)), some (.int (zN (iq + 5))), p5, p6] [] g9 w9 := by
  obtain ⟨hC, ⟨sc, Rq, hM, hR⟩, ⟨fz, hO⟩, hb, hbN, hs⟩ := h
  obtain ⟨w1, a1, a2, a3⟩ := x_later (so := so) (g := g) (xx := N9) (w := w) (Fq := Fq) (pq := (xs (iq + 1))) (kq := (xs (iq + 2))) hC
  have i6 : pwIsC w N9 6 = true := ci_ hC.1
  have hO1 : w1 (N9 + 290) = .inl (1, 1, .inr (.inl fz)) := by rw [a2 _ (by omega)]; exact hO
  obtain ⟨e0, e1, e2, e3, e4⟩ := lds hb hi hL
  have hcd := cd_later (Fq := Fq) (pq := (xs (iq + 1))) (kq := (xs (iq + 2)))
  generalize hf : (fLater Fq (xs (iq + 1)) (xs (iq + 2))) = rv at *
  obtain ⟨cd, vq⟩ := rv
  dsimp only at a1 a3 hcd
  obtain ⟨g2, w2, f2, r1, r2, r3, r4, r5⟩ := lw_go (l_later i6 a3 hcd hO1) hO1
  have hfr : ∀ aq, aq < N9 ∨ (N9 + 280 ≤ aq ∧ aq ≠ N9 + 290) → w2 aq = w aq := fun aq ha => by rw [r3 aq (by omega)]; exact a2 aq (by omega)
  have hM2 : w2 = mkM (N9 + 280) sc Rq w2 := mkM_cong (fun aq c1 c2 => hfr aq (by omega)) hM
  obtain ⟨s1, R1, b1, b2, b3⟩ := y_later (so := so) (g := g2) (bq := N9 + 280) (w := w2) (sc := sc) (Rq := Rq) (Fq := Fq) (pq := (xs (iq + 1))) (kq := (xs (iq + 2))) hR
  have b4 := y_thrown (so := so) (g := g2) (bq := N9 + 280) (sc := s1) (Rq := R1) (w := w2)
  rw [hf] at b2 b3
  rw [b2] at b4
  rw [← hM2] at b3
  dsimp only at b3 b4
  have j7 : pwIsC w2 (N9 + 280) 7 = true := by rw [hM2]; exact mm_i
  have hb2 : w2 bq = .inl (4, L9, .inl xs) := by rw [hfr bq (by omega)]; exact hb
  obtain ⟨d0, d1, d2, d3, d4⟩ := lds hb2 hi hL
  have hO3 : mkM (N9 + 280) s1 R1 w2 (N9 + 290) = .inl (1, 1, .inr (.inl f2)) := by rw [mm_o (by omega)]; exact r4
  have hj := ldJ hO3
  refine ⟨Fq, g2, mkM (N9 + 280) s1 R1 w2, some (.int (zN cd)), some (.int vq), ?_, r2, ?_⟩
  · exact LW_mk (cls_fr (fun aq c1 c2 => r3 aq (by omega)) a1) b1 ⟨f2, r4⟩ hb2 hbN (soW_f2 hs (fun aq ha => hfr aq (Or.inl ha)))
  · by_cases h0 : cd = 0
    · rw [r5 h0] at hj
      rw [h0] at r1 b4 ⊢
      simp (disch := omega) only [s_L_law_1220, s_L_law_1221, s_L_law_1222, s_L_law_1224, s_L_law_1225, s_L_law_1226, s_L_law_1227, s_L_law_1228, s_L_law_1230, s_L_law_1231, s_L_law_1232, s_L_law_1233, s_L_law_1234, s_L_law_1237, s_L_law_1239, s_L_law_1240, s_L_law_1241, s_L_law_1243, s_L_law_1244, s_L_law_1245, s_L_law_1246, s_L_law_1247, s_L_law_1249, s_L_law_1250, s_L_law_1251, s_L_law_1252, s_L_law_1255, s_L_law_1257, s_L_law_1258, s_L_law_1261, s_L_law_1263, s_L_law_1266, s_L_law_1267, s_L_law_1268, s_L_law_1270, s_L_law_1273, s_L_law_1274, s_L_law_1275, s_L_law_1276, s_L_law_1278, s_L_law_1279, s_L_law_1280, s_L_law_1283, s_L_law_1284, s_L_law_1285, s_L_law_1725, s_L_law_1728, zN_neg1, nL0, nL1, nL2, nL3, nL4, nL5, nL6, nL7, nL8, nL9, nL10, nL11, nL12, nL13, nL14, nL20, nL21, nL22, nL23, nL25, nL32, nL33, nL39, nL40, nL43, nL44, nL99, nL100, nL120, nL216, nL217, nL218, nL219, nL220, nL221, nL500, nL999, nL1000, nL10000, nL100000, sh33, zN_lt, zN_le, zN_eq, zN_ge0, zN_lt0, zN_nm, zN_mn, zN_mlt, zN_ltm, zN_lem, zN_mle, zN_m1, zN_m2, zN_addm, zN_ofNat, zN_beq, zN_add, zN_sub, zN_mul, zN_rem, qT_lt, qF_lt, qT_le, qF_le, qT_eq, qF_eq, ↓reduceIte, and_true, true_and, false_and, and_false, not_true_eq_false, not_false_eq_true, decide_true, decide_false, Bool.true_or, Bool.or_true, Bool.false_or, Bool.or_false, cond_true, cond_false, qbi, qb1, qb0, qAv, cond_true, Option.bind_some, i6, j7, mm_i, e0, e1, e2, e3, e4, d0, d1, d2, d3, d4, r1, b3, b4, hj, lcE0]
    · simp (disch := omega) only [s_L_law_1220, s_L_law_1221, s_L_law_1222, s_L_law_1224, s_L_law_1225, s_L_law_1226, s_L_law_1227, s_L_law_1228, s_L_law_1230, s_L_law_1231, s_L_law_1232, s_L_law_1233, s_L_law_1234, s_L_law_1237, s_L_law_1239, s_L_law_1240, s_L_law_1241, s_L_law_1243, s_L_law_1244, s_L_law_1245, s_L_law_1246, s_L_law_1247, s_L_law_1249, s_L_law_1250, s_L_law_1251, s_L_law_1252, s_L_law_1255, s_L_law_1257, s_L_law_1258, s_L_law_1261, s_L_law_1263, s_L_law_1266, s_L_law_1267, s_L_law_1268, s_L_law_1270, s_L_law_1273, s_L_law_1274, s_L_law_1275, s_L_law_1276, s_L_law_1278, s_L_law_1279, s_L_law_1280, s_L_law_1283, s_L_law_1284, s_L_law_1285, s_L_law_1725, s_L_law_1728, zN_neg1, nL0, nL1, nL2, nL3, nL4, nL5, nL6, nL7, nL8, nL9, nL10, nL11, nL12, nL13, nL14, nL20, nL21, nL22, nL23, nL25, nL32, nL33, nL39, nL40, nL43, nL44, nL99, nL100, nL120, nL216, nL217, nL218, nL219, nL220, nL221, nL500, nL999, nL1000, nL10000, nL100000, sh33, zN_lt, zN_le, zN_eq, zN_ge0, zN_lt0, zN_nm, zN_mn, zN_mlt, zN_ltm, zN_lem, zN_mle, zN_m1, zN_m2, zN_addm, zN_ofNat, zN_beq, zN_add, zN_sub, zN_mul, zN_rem, qT_lt, qF_lt, qT_le, qF_le, qT_eq, qF_eq, ↓reduceIte, and_true, true_and, false_and, and_false, not_true_eq_false, not_false_eq_true, decide_true, decide_false, Bool.true_or, Bool.or_true, Bool.false_or, Bool.or_false, cond_true, cond_false, qbi, qb1, qb0, qAv, cond_true, Option.bind_some, i6, j7, mm_i, e0, e1, e2, e3, e4, d0, d1, d2, d3, d4, r1, b3, b4, hj, h0]
end QA

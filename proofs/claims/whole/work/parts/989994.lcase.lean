/-! the pure part: the law's cases 21 to 27 -/
section QA
variable {so : Nat → Nat} {g : pwG} {bq L9 N9 iq : Nat} {w : pwW} {xs : Nat → Int32} {Fq : FS} {o5 o6 : Option Value}
theorem k_bestRule (h : LW so bq L9 N9 xs Fq w) (hi : iq + 5 ≤ L9) (hL : L9 ≤ 2560) : ∃ (F9 : FS) (g9 : pwG) (w9 : pwW) (p5 p6 : Option Value), LW so bq L9 N9 xs F9 w9 ∧ (g9.2.2.1 ≤ g.2.2.1 + 1 ∧ g9.2.2.2 ≤ g.2.2.2 + 6) ∧ pwX so 243 1288 [some (.ref bq), some (.ref N9), some (.ref (N9 + 280)), some (.ref (N9 + 290)), some (.int (zN iq)), o5, o6] [] g w = pwX so 243 23 [some (.ref bq), some (.ref N9), some (.ref (N9 + 280)), some (.ref (N9 + 290)), some (.int (zN (iq + 5))), p5, p6] [] g9 w9 := by
  obtain ⟨hC, ⟨sc, Rq, hM, hR⟩, ⟨fz, hO⟩, hb, hbN, hs⟩ := h
  obtain ⟨w1, a1, a2, a3⟩ := x_bestRule (so := so) (g := g) (xx := N9) (w := w) (Fq := Fq)  hC
  have i6 : pwIsC w N9 6 = true := ci_ hC.1
  have hO1 : w1 (N9 + 290) = .inl (1, 1, .inr (.inl fz)) := by rw [a2 _ (by omega)]; exact hO
  obtain ⟨e0, e1, e2, e3, e4⟩ := lds hb hi hL
  have hfr : ∀ aq, aq < N9 ∨ N9 + 280 ≤ aq → w1 aq = w aq := a2
  have hM2 : w1 = mkM (N9 + 280) sc Rq w1 := mkM_cong (fun aq c1 c2 => hfr aq (by omega)) hM
  obtain ⟨s1, R1, b1, b2, b3⟩ := y_bestRule (so := so) (g := g) (bq := N9 + 280) (w := w1) (sc := sc) (Rq := Rq) (Fq := Fq)  hR
  rw [← hM2] at b3
  have j7 : pwIsC w1 (N9 + 280) 7 = true := by rw [hM2]; exact mm_i
  have hb2 : w1 bq = .inl (4, L9, .inl xs) := by rw [hfr bq (by omega)]; exact hb
  have a3 : pwX so 117 0 [some (.ref N9), none, none, none, none] [] g w = some (.inl (some (.int (zN (am (rlF Fq.2.1) 4)))), g, w1) := a3
  refine ⟨_, g, mkM (N9 + 280) s1 R1 w1, o5, o6, LW_mk a1 b1 ⟨fz, hO1⟩ hb2 hbN (soW_f2 hs (fun aq ha => hfr aq (Or.inl ha))), ⟨Nat.le_succ _, Nat.le_add_right _ _⟩, ?_⟩
  generalize (zN (am (rlF Fq.2.1) 4)) = v9 at a3 b3
  simp (disch := omega) only [s_L_law_1288, s_L_law_1289, s_L_law_1292, s_L_law_1293, s_L_law_1296, s_L_law_1299, s_L_law_1300, s_L_law_1725, s_L_law_1728, zN_neg1, nL0, nL1, nL2, nL3, nL4, nL5, nL6, nL7, nL8, nL9, nL10, nL11, nL12, nL13, nL14, nL20, nL21, nL22, nL23, nL25, nL32, nL33, nL39, nL40, nL43, nL44, nL99, nL100, nL120, nL216, nL217, nL218, nL219, nL220, nL221, nL500, nL999, nL1000, nL10000, nL100000, sh33, zN_lt, zN_le, zN_eq, zN_ge0, zN_lt0, zN_nm, zN_mn, zN_mlt, zN_ltm, zN_lem, zN_mle, zN_m1, zN_m2, zN_addm, zN_ofNat, zN_beq, zN_add, zN_sub, zN_mul, zN_rem, qT_lt, qF_lt, qT_le, qF_le, qT_eq, qF_eq, ↓reduceIte, and_true, true_and, false_and, and_false, not_true_eq_false, not_false_eq_true, decide_true, decide_false, Bool.true_or, Bool.or_true, Bool.false_or, Bool.or_false, cond_true, cond_false, qbi, qb1, qb0, qAv, cond_true, Option.bind_some, i6, j7, mm_i, a3, b3]
theorem k_bestShift (h : LW so bq L9 N9 xs Fq w) (hi : iq + 5 ≤ L9) (hL : L9 ≤ 2560) : ∃ (F9 : FS) (g9 : pwG) (w9 : pwW) (p5 p6 : Option Value), LW so bq L9 N9 xs F9 w9 ∧ (g9.2.2.1 ≤ g.2.2.1 + 1 ∧ g9.2.2.2 ≤ g.2.2.2 + 6) ∧ pwX so 243 1301 [some (.ref bq), some (.ref N9), some (.ref (N9 + 280)), some (.ref (N9 + 290)), some (.int (zN iq)), o5, o6] [] g w = pwX so 243 23 [some (.ref bq), some (.ref N9), some (.ref (N9 + 280)), some (.ref (N9 + 290)), some (.int (zN (iq + 5))), p5, p6] [] g9 w9 := by
  obtain ⟨hC, ⟨sc, Rq, hM, hR⟩, ⟨fz, hO⟩, hb, hbN, hs⟩ := h
  obtain ⟨w1, a1, a2, a3⟩ := x_bestShift (so := so) (g := g) (xx := N9) (w := w) (Fq := Fq) (kq := (xs (iq + 1))) hC
  have i6 : pwIsC w N9 6 = true := ci_ hC.1
  have hO1 : w1 (N9 + 290) = .inl (1, 1, .inr (.inl fz)) := by rw [a2 _ (by omega)]; exact hO
  obtain ⟨e0, e1, e2, e3, e4⟩ := lds hb hi hL
  have hcd := cd_bestShift (Fq := Fq) (kq := (xs (iq + 1)))
  generalize hf : (fBShift Fq (xs (iq + 1))) = rv at *
  obtain ⟨cd, vq⟩ := rv
  dsimp only at a1 a3 hcd
  obtain ⟨g2, w2, f2, r1, r2, r3, r4, r5⟩ := lw_go (l_bestShift i6 a3 hcd hO1) hO1
  have hfr : ∀ aq, aq < N9 ∨ (N9 + 280 ≤ aq ∧ aq ≠ N9 + 290) → w2 aq = w aq := fun aq ha => by rw [r3 aq (by omega)]; exact a2 aq (by omega)
  have hM2 : w2 = mkM (N9 + 280) sc Rq w2 := mkM_cong (fun aq c1 c2 => hfr aq (by omega)) hM
  obtain ⟨s1, R1, b1, b2, b3⟩ := y_bestShift (so := so) (g := g2) (bq := N9 + 280) (w := w2) (sc := sc) (Rq := Rq) (Fq := Fq) (kq := (xs (iq + 1))) hR
  have b4 := y_thrown (so := so) (g := g2) (bq := N9 + 280) (sc := s1) (Rq := R1) (w := w2)
  rw [hf] at b2 b3
  rw [b2] at b4
  rw [← hM2] at b3
  dsimp only at b3 b4
  have j7 : pwIsC w2 (N9 + 280) 7 = true := by rw [hM2]; exact mm_i
  have hb2 : w2 bq = .inl (4, L9, .inl xs) := by rw [hfr bq (by omega)]; exact hb
  obtain ⟨d0, d1, d2, d3, d4⟩ := lds hb2 hi hL
  have hO3 : mkM (N9 + 280) s1 R1 w2 (N9 + 290) = .inl (1, 1, .inr (.inl f2)) := by rw [mm_o (by omega)]; exact r4
  have hj := ldJ hO3
  refine ⟨Fq, g2, mkM (N9 + 280) s1 R1 w2, some (.int (zN cd)), some (.int vq), ?_, r2, ?_⟩
  · exact LW_mk (cls_fr (fun aq c1 c2 => r3 aq (by omega)) a1) b1 ⟨f2, r4⟩ hb2 hbN (soW_f2 hs (fun aq ha => hfr aq (Or.inl ha)))
  · by_cases h0 : cd = 0
    · rw [r5 h0] at hj
      rw [h0] at r1 b4 ⊢
      simp (disch := omega) only [s_L_law_1301, s_L_law_1302, s_L_law_1303, s_L_law_1305, s_L_law_1306, s_L_law_1307, s_L_law_1308, s_L_law_1309, s_L_law_1312, s_L_law_1314, s_L_law_1315, s_L_law_1316, s_L_law_1318, s_L_law_1319, s_L_law_1320, s_L_law_1321, s_L_law_1324, s_L_law_1326, s_L_law_1327, s_L_law_1330, s_L_law_1332, s_L_law_1335, s_L_law_1336, s_L_law_1337, s_L_law_1339, s_L_law_1342, s_L_law_1343, s_L_law_1344, s_L_law_1345, s_L_law_1347, s_L_law_1348, s_L_law_1349, s_L_law_1352, s_L_law_1353, s_L_law_1354, s_L_law_1725, s_L_law_1728, zN_neg1, nL0, nL1, nL2, nL3, nL4, nL5, nL6, nL7, nL8, nL9, nL10, nL11, nL12, nL13, nL14, nL20, nL21, nL22, nL23, nL25, nL32, nL33, nL39, nL40, nL43, nL44, nL99, nL100, nL120, nL216, nL217, nL218, nL219, nL220, nL221, nL500, nL999, nL1000, nL10000, nL100000, sh33, zN_lt, zN_le, zN_eq, zN_ge0, zN_lt0, zN_nm, zN_mn, zN_mlt, zN_ltm, zN_lem, zN_mle, zN_m1, zN_m2, zN_addm, zN_ofNat, zN_beq, zN_add, zN_sub, zN_mul, zN_rem, qT_lt, qF_lt, qT_le, qF_le, qT_eq, qF_eq, ↓reduceIte, and_true, true_and, false_and, and_false, not_true_eq_false, not_false_eq_true, decide_true, decide_false, Bool.true_or, Bool.or_true, Bool.false_or, Bool.or_false, cond_true, cond_false, qbi, qb1, qb0, qAv, cond_true, Option.bind_some, i6, j7, mm_i, e0, e1, e2, e3, e4, d0, d1, d2, d3, d4, r1, b3, b4, hj, lcE0]
    · simp (disch := omega) only [s_L_law_1301, s_L_law_1302, s_L_law_1303, s_L_law_1305, s_L_law_1306, s_L_law_1307, s_L_law_1308, s_L_law_1309, s_L_law_1312, s_L_law_1314, s_L_law_1315, s_L_law_1316, s_L_law_1318, s_L_law_1319, s_L_law_1320, s_L_law_1321, s_L_law_1324, s_L_law_1326, s_L_law_1327, s_L_law_1330, s_L_law_1332, s_L_law_1335, s_L_law_1336, s_L_law_1337, s_L_law_1339, s_L_law_1342, s_L_law_1343, s_L_law_1344, s_L_law_1345, s_L_law_1347, s_L_law_1348, s_L_law_1349, s_L_law_1352, s_L_law_1353, s_L_law_1354, s_L_law_1725, s_L_law_1728, zN_neg1, nL0, nL1, nL2, nL3, nL4, nL5, nL6, nL7, nL8, nL9, nL10, nL11, nL12, nL13, nL14, nL20, nL21, nL22, nL23, nL25, nL32, nL33, nL39, nL40, nL43, nL44, nL99, nL100, nL120, nL216, nL217, nL218, nL219, nL220, nL221, nL500, nL999, nL1000, nL10000, nL100000, sh33, zN_lt, zN_le, zN_eq, zN_ge0, zN_lt0, zN_nm, zN_mn, zN_mlt, zN_ltm, zN_lem, zN_mle, zN_m1, zN_m2, zN_addm, zN_ofNat, zN_beq, zN_add, zN_sub, zN_mul, zN_rem, qT_lt, qF_lt, qT_le, qF_le, qT_eq, qF_eq, ↓reduceIte, and_true, true_and, false_and, and_false, not_true_eq_false, not_false_eq_true, decide_true, decide_false, Bool.true_or, Bool.or_true, Bool.false_or, Bool.or_false, cond_true, cond_false, qbi, qb1, qb0, qAv, cond_true, Option.bind_some, i6, j7, mm_i, e0, e1, e2, e3, e4, d0, d1, d2, d3, d4, r1, b3, b4, hj, h0]
theorem k_bestExchange (h : LW so bq L9 N9 xs Fq w) (hi : iq + 5 ≤ L9) (hL : L9 ≤ 2560) : ∃ (F9 : FS) (g9 : pwG) (w9 : pwW) (p5 p6 : Option Value), LW so bq L9 N9 xs F9 w9 ∧ (g9.2.2.1 ≤ g.2.2.1 + 1 ∧ g9.2.2.2 ≤ g.2.2.2 + 6) ∧ pwX so 243 1357 [some (.ref bq), some (.ref N9), some (.ref (N9 + 280)), some (.ref (N9 + 290)), some (.int (zN iq)), o5, o6] [] g w = pwX so 243 23 [some (.ref bq), some (.ref N9), some (.ref (N9 + 280)), some (.ref (N9 + 290)), some (.int (zN (iq + 5))), p5, p6] [] g9 w9 := by
  obtain ⟨hC, ⟨sc, Rq, hM, hR⟩, ⟨fz, hO⟩, hb, hbN, hs⟩ := h
  obtain ⟨w1, a1, a2, a3⟩ := x_bestExch (so := so) (g := g) (xx := N9) (w := w) (Fq := Fq) (pq := (xs (iq + 1))) hC
  have i6 : pwIsC w N9 6 = true := ci_ hC.1
  have hO1 : w1 (N9 + 290) = .inl (1, 1, .inr (.inl fz)) := by rw [a2 _ (by omega)]; exact hO
  obtain ⟨e0, e1, e2, e3, e4⟩ := lds hb hi hL
  have hcd := cd_bestExchange (Fq := Fq) (pq := (xs (iq + 1)))
  generalize hf : (fBest Fq (xs (iq + 1))) = rv at *
  obtain ⟨cd, vq⟩ := rv
  dsimp only at a1 a3 hcd
  obtain ⟨g2, w2, f2, r1, r2, r3, r4, r5⟩ := lw_go (l_bestExchange i6 a3 hcd hO1) hO1
  have hfr : ∀ aq, aq < N9 ∨ (N9 + 280 ≤ aq ∧ aq ≠ N9 + 290) → w2 aq = w aq := fun aq ha => by rw [r3 aq (by omega)]; exact a2 aq (by omega)
  have hM2 : w2 = mkM (N9 + 280) sc Rq w2 := mkM_cong (fun aq c1 c2 => hfr aq (by omega)) hM
  obtain ⟨s1, R1, b1, b2, b3⟩ := y_bestExch (so := so) (g := g2) (bq := N9 + 280) (w := w2) (sc := sc) (Rq := Rq) (Fq := Fq) (pq := (xs (iq + 1))) hR
  have b4 := y_thrown (so := so) (g := g2) (bq := N9 + 280) (sc := s1) (Rq := R1) (w := w2)
  rw [hf] at b2 b3
  rw [b2] at b4
  rw [← hM2] at b3
  dsimp only at b3 b4
  have j7 : pwIsC w2 (N9 + 280) 7 = true := by rw [hM2]; exact mm_i
  have hb2 : w2 bq = .inl (4, L9, .inl xs) := by rw [hfr bq (by omega)]; exact hb
  obtain ⟨d0, d1, d2, d3, d4⟩ := lds hb2 hi hL
  have hO3 : mkM (N9 + 280) s1 R1 w2 (N9 + 290) = .inl (1, 1, .inr (.inl f2)) := by rw [mm_o (by omega)]; exact r4
  have hj := ldJ hO3
  refine ⟨Fq, g2, mkM (N9 + 280) s1 R1 w2, some (.int (zN cd)), some (.int vq), ?_, r2, ?_⟩
  · exact LW_mk (cls_fr (fun aq c1 c2 => r3 aq (by omega)) a1) b1 ⟨f2, r4⟩ hb2 hbN (soW_f2 hs (fun aq ha => hfr aq (Or.inl ha)))
  · by_cases h0 : cd = 0
    · rw [r5 h0] at hj
      rw [h0] at r1 b4 ⊢
      simp (disch := omega) only [s_L_law_1357, s_L_law_1358, s_L_law_1359, s_L_law_1361, s_L_law_1362, s_L_law_1363, s_L_law_1364, s_L_law_1365, s_L_law_1368, s_L_law_1370, s_L_law_1371, s_L_law_1372, s_L_law_1374, s_L_law_1375, s_L_law_1376, s_L_law_1377, s_L_law_1380, s_L_law_1382, s_L_law_1383, s_L_law_1386, s_L_law_1388, s_L_law_1391, s_L_law_1392, s_L_law_1393, s_L_law_1395, s_L_law_1398, s_L_law_1399, s_L_law_1400, s_L_law_1401, s_L_law_1403, s_L_law_1404, s_L_law_1405, s_L_law_1408, s_L_law_1409, s_L_law_1410, s_L_law_1725, s_L_law_1728, zN_neg1, nL0, nL1, nL2, nL3, nL4, nL5, nL6, nL7, nL8, nL9, nL10, nL11, nL12, nL13, nL14, nL20, nL21, nL22, nL23, nL25, nL32, nL33, nL39, nL40, nL43, nL44, nL99, nL100, nL120, nL216, nL217, nL218, nL219, nL220, nL221, nL500, nL999, nL1000, nL10000, nL100000, sh33, zN_lt, zN_le, zN_eq, zN_ge0, zN_lt0, zN_nm, zN_mn, zN_mlt, zN_ltm, zN_lem, zN_mle, zN_m1, zN_m2, zN_addm, zN_ofNat, zN_beq, zN_add, zN_sub, zN_mul, zN_rem, qT_lt, qF_lt, qT_le, qF_le, qT_eq, qF_eq, ↓reduceIte, and_true, true_and, false_and, and_false, not_true_eq_false, not_false_eq_true, decide_true, decide_false, Bool.true_or, Bool.or_true, Bool.false_or, Bool.or_false, cond_true, cond_false, qbi, qb1, qb0, qAv, cond_true, Option.bind_some, i6, j7, mm_i, e0, e1, e2, e3, e4, d0, d1, d2, d3, d4, r1, b3, b4, hj, lcE0]
    · simp (disch := omega) only [s_L_law_1357, s_L_law_1358, s_L_law_1359, s_L_law_1361, s_L_law_1362, s_L_law_1363, s_L_law_1364, s_L_law_1365, s_L_law_1368, s_L_law_1370, s_L_law_1371, s_L_law_1372, s_L_law_1374, s_L_law_1375, s_L_law_1376, s_L_law_1377, s_L_law_1380, s_L_law_1382, s_L_law_1383, s_L_law_1386, s_L_law_1388, s_L_law_1391, s_L_law_1392, s_L_law_1393, s_L_law_1395, s_L_law_1398, s_L_law_1399, s_L_law_1400, s_L_law_1401, s_L_law_1403, s_L_law_1404, s_L_law_1405, s_L_law_1408, s_L_law_1409, s_L_law_1410, s_L_law_1725, s_L_law_1728, zN_neg1, nL0, nL1, nL2, nL3, nL4, nL5, nL6, nL7, nL8, nL9, nL10, nL11, nL12, nL13, nL14, nL20, nL21, nL22, nL23, nL25, nL32, nL33, nL39, nL40, nL43, nL44, nL99, nL100, nL120, nL216, nL217, nL218, nL219, nL220, nL221, nL500, nL999, nL1000, nL10000, nL100000, sh33, zN_lt, zN_le, zN_eq, zN_ge0, zN_lt0, zN_nm, zN_mn, zN_mlt, zN_ltm, zN_lem, zN_mle, zN_m1, zN_m2, zN_addm, zN_ofNat, zN_beq, zN_add, zN_sub, zN_mul, zN_rem, qT_lt, qF_lt, qT_le, qF_le, qT_eq, qF_eq, ↓reduceIte, and_true, true_and, false_and, and_false, not_true_eq_false, not_false_eq_true, decide_true, decide_false, Bool.true_or, Bool.or_true, Bool.false_or, Bool.or_false, cond_true, cond_false, qbi, qb1, qb0, qAv, cond_true, Option.bind_some, i6, j7, mm_i, e0, e1, e2, e3, e4, d0, d1, d2, d3, d4, r1, b3, b4, hj, h0]
theorem k_runScript (h : LW so bq L9 N9 xs Fq w) (hi : iq + 5 ≤ L9) (hL : L9 ≤ 2560) : ∃ (F9 : FS) (g9 : pwG) (w9 : pwW) (p5 p6 : Option Value), LW so bq L9 N9 xs F9 w9 ∧ (g9.2.2.1 ≤ g.2.2.1 + 1 ∧ g9.2.2.2 ≤ g.2.2.2 + 6) ∧ pwX so 243 1413 [some (.ref bq), some (.ref N9), some (.ref (N9 + 280)), some (.ref (N9 + 290)), some (.int (zN iq)), o5, o6] [] g w = pwX so 243 23 [some (.ref bq), some (.ref N9), some (.ref (N9 + 280)), some (.ref (N9 + 290)), some (.int (zN (iq + 5))), p5, p6] [] g9 w9 := by
  obtain ⟨hC, ⟨sc, Rq, hM, hR⟩, ⟨fz, hO⟩, hb, hbN, hs⟩ := h
  obtain ⟨w1, a1, a2, a3⟩ := x_scr (so := so) (g := g) (xx := N9) (w := w) (Fq := Fq) (pq := (xs (iq + 1))) (sz := (((xs (iq + 2)).toInt64 <<< ((zN 32).toInt64 &&& 63)) ||| ((xs (iq + 3)).toInt64 &&& 4294967295))) hC
  have i6 : pwIsC w N9 6 = true := ci_ hC.1
  have hO1 : w1 (N9 + 290) = .inl (1, 1, .inr (.inl fz)) := by rw [a2 _ (by omega)]; exact hO
  obtain ⟨e0, e1, e2, e3, e4⟩ := lds hb hi hL
  have hcd := cd_runScript (Fq := Fq) (pq := (xs (iq + 1))) (sz := (((xs (iq + 2)).toInt64 <<< ((zN 32).toInt64 &&& 63)) ||| ((xs (iq + 3)).toInt64 &&& 4294967295)))
  generalize hf : (fScr Fq (xs (iq + 1)) (((xs (iq + 2)).toInt64 <<< ((zN 32).toInt64 &&& 63)) ||| ((xs (iq + 3)).toInt64 &&& 4294967295))) = rv at *
  obtain ⟨cd, vq⟩ := rv
  dsimp only at a1 a3 hcd
  obtain ⟨g2, w2, f2, r1, r2, r3, r4, r5⟩ := lw_go (l_runScript i6 a3 hcd hO1) hO1
  have hfr : ∀ aq, aq < N9 ∨ (N9 + 280 ≤ aq ∧ aq ≠ N9 + 290) → w2 aq = w aq := fun aq ha => by rw [r3 aq (by omega)]; exact a2 aq (by omega)
  have hM2 : w2 = mkM (N9 + 280) sc Rq w2 := mkM_cong (fun aq c1 c2 => hfr aq (by omega)) hM
  obtain ⟨s1, R1, b1, b2, b3⟩ := y_scr (so := so) (g := g2) (bq := N9 + 280) (w := w2) (sc := sc) (Rq := Rq) (Fq := Fq) (pq := (xs (iq + 1))) (sz := (((xs (iq + 2)).toInt64 <<< ((zN 32).toInt64 &&& 63)) ||| ((xs (iq + 3)).toInt64 &&& 4294967295))) hR
  have b4 := y_thrown (so := so) (g := g2) (bq := N9 + 280) (sc := s1) (Rq := R1) (w := w2)
  rw [hf] at b2 b3
  rw [b2] at b4
  rw [← hM2] at b3
  dsimp only at b3 b4
  have j7 : pwIsC w2 (N9 + 280) 7 = true := by rw [hM2]; exact mm_i
  have hb2 : w2 bq = .inl (4, L9, .inl xs) := by rw [hfr bq (by omega)]; exact hb
  obtain ⟨d0, d1, d2, d3, d4⟩ := lds hb2 hi hL
  have hO3 : mkM (N9 + 280) s1 R1 w2 (N9 + 290) = .inl (1, 1, .inr (.inl f2)) := by rw [mm_o (by omega)]; exact r4
  have hj := ldJ hO3
  refine ⟨Fq, g2, mkM (N9 + 280) s1 R1 w2, some (.int (zN cd)), some (.int vq), ?_, r2, ?_⟩
  · exact LW_mk (cls_fr (fun aq c1 c2 => r3 aq (by omega)) a1) b1 ⟨f2, r4⟩ hb2 hbN (soW_f2 hs (fun aq ha => hfr aq (Or.inl ha)))
  · by_cases h0 : cd = 0
    · rw [r5 h0] at hj
      rw [h0] at r1 b4 ⊢
      simp (disch := omega) only [s_L_law_1413, s_L_law_1414, s_L_law_1415, s_L_law_1417, s_L_law_1418, s_L_law_1419, s_L_law_1420, s_L_law_1421, s_L_law_1423, s_L_law_1424, s_L_law_1425, s_L_law_1426, s_L_law_1427, s_L_law_1429, s_L_law_1430, s_L_law_1431, s_L_law_1433, s_L_law_1434, s_L_law_1435, s_L_law_1436, s_L_law_1437, s_L_law_1440, s_L_law_1441, s_L_law_1442, s_L_law_1443, s_L_law_1446, s_L_law_1448, s_L_law_1449, s_L_law_1450, s_L_law_1452, s_L_law_1453, s_L_law_1454, s_L_law_1455, s_L_law_1456, s_L_law_1458, s_L_law_1459, s_L_law_1460, s_L_law_1461, s_L_law_1462, s_L_law_1464, s_L_law_1465, s_L_law_1466, s_L_law_1468, s_L_law_1469, s_L_law_1470, s_L_law_1471, s_L_law_1472, s_L_law_1475, s_L_law_1476, s_L_law_1477, s_L_law_1480, s_L_law_1482, s_L_law_1483, s_L_law_1486, s_L_law_1488, s_L_law_1491, s_L_law_1492, s_L_law_1493, s_L_law_1495, s_L_law_1498, s_L_law_1499, s_L_law_1500, s_L_law_1501, s_L_law_1503, s_L_law_1504, s_L_law_1505, s_L_law_1508, s_L_law_1509, s_L_law_1510, s_L_law_1725, s_L_law_1728, zN_neg1, nL0, nL1, nL2, nL3, nL4, nL5, nL6, nL7, nL8, nL9, nL10, nL11, nL12, nL13, nL14, nL20, nL21, nL22, nL23, nL25, nL32, nL33, nL39, nL40, nL43, nL44, nL99, nL100, nL120, nL216, nL217, nL218, nL219, nL220, nL221, nL500, nL999, nL1000, nL10000, nL100000, sh33, zN_lt, zN_le, zN_eq, zN_ge0, zN_lt0, zN_nm, zN_mn, zN_mlt, zN_ltm, zN_lem, zN_mle, zN_m1, zN_m2, zN_addm, zN_ofNat, zN_beq, zN_add, zN_sub, zN_mul, zN_rem, qT_lt, qF_lt, qT_le, qF_le, qT_eq, qF_eq, ↓reduceIte, and_true, true_and, false_and, and_false, not_true_eq_false, not_false_eq_true, decide_true, decide_false, Bool.true_or, Bool.or_true, Bool.false_or, Bool.or_false, cond_true, cond_false, qbi, qb1, qb0, qAv, cond_true, Option.bind_some, i6, j7, mm_i, e0, e1, e2, e3, e4, d0, d1, d2, d3, d4, r1, b3, b4, hj, lcE0]
    · simp (disch := omega) only [s_L_law_1413, s_L_law_1414, s_L_law_1415, s_L_law_1417, s_L_law_1418, s_L_law_1419, s_L_law_1420, s_L_law_1421, s_L_law_1423, s_L_law_1424, s_L_law_1425, s_L_law_1426, s_L_law_1427, s_L_law_1429, s_L_law_1430, s_L_law_1431, s_L_law_1433, s_L_law_1434, s_L_law_1435, s_L_law_1436, s_L_law_1437, s_L_law_1440, s_L_law_1441, s_L_law_1442, s_L_law_1443, s_L_law_1446, s_L_law_1448, s_L_law_1449, s_L_law_1450, s_L_law_1452, s_L_law_1453, s_L_law_1454, s_L_law_1455, s_L_law_1456, s_L_law_1458, s_L_law_1459, s_L_law_1460, s_L_law_1461, s_L_law_1462, s_L_law_1464, s_L_law_1465, s_L_law_1466, s_L_law_1468, s_L_law_1469, s_L_law_1470, s_L_law_1471, s_L_law_1472, s_L_law_1475, s_L_law_1476, s_L_law_1477, s_L_law_1480, s_L_law_1482, s_L_law_1483, s_L_law_1486, s_L_law_1488, s_L_law_1491, s_L_law_1492, s_L_law_1493, s_L_law_1495, s_L_law_1498, s_L_law_1499, s_L_law_1500, s_L_law_1501, s_L_law_1503, s_L_law_1504, s_L_law_1505, s_L_law_1508, s_L_law_1509, s_L_law_1510, s_L_law_1725, s_L_law_1728, zN_neg1, nL0, nL1, nL2, nL3, nL4, nL5, nL6, nL7, nL8, nL9, nL10, nL11, nL12, nL13, nL14, nL20, nL21, nL22, nL23, nL25, nL32, nL33, nL39, nL40, nL43, nL44, nL99, nL100, nL120, nL216, nL217, nL218, nL219, nL220, nL221, nL500, nL999, nL1000, nL10000, nL100000, sh33, zN_lt, zN_le, zN_eq, zN_ge0, zN_lt0, zN_nm, zN_mn, zN_mlt, zN_ltm, zN_lem, zN_mle, zN_m1, zN_m2, zN_addm, zN_ofNat, zN_beq, zN_add, zN_sub, zN_mul, zN_rem, qT_lt, qF_lt, qT_le, qF_le, qT_eq, qF_eq, ↓reduceIte, and_true, true_and, false_and, and_false, not_true_eq_false, not_false_eq_true, decide_true, decide_false, Bool.true_or, Bool.or_true, Bool.false_or, Bool.or_false, cond_true, cond_false, qbi, qb1, qb0, qAv, cond_true, Option.bind_some, i6, j7, mm_i, e0, e1, e2, e3, e4, d0, d1, d2, d3, d4, r1, b3, b4, hj, h0]
theorem k_simulate (h : LW so bq L9 N9 xs Fq w) (hi : iq + 5 ≤ L9) (hL : L9 ≤ 2560) : ∃ (F9 : FS) (g9 : pwG) (w9 : pwW) (p5 p6 : Option Value), LW so bq L9 N9 xs F9 w9 ∧ (g9.2.2.1 ≤ g.2.2.1 + 1 ∧ g9.2.2.2 ≤ g.2.2.2 + 6) ∧ pwX so 243 1513 [some (.ref bq), some (.ref N9), some (.ref (N9 + 280)), some (.ref (N9 + 290)), some (.int (zN iq)), o5, o6] [] g w = pwX so 243 23 [some (.ref bq), some (.ref N9), some (.ref (N9 + 280)), some (.ref (N9 + 290)), some (.int (zN (iq + 5))), p5, p6] [] g9 w9 := by
  obtain ⟨hC, ⟨sc, Rq, hM, hR⟩, ⟨fz, hO⟩, hb, hbN, hs⟩ := h
  obtain ⟨w1, a1, a2, a3⟩ := x_sim (so := so) (g := g) (xx := N9) (w := w) (Fq := Fq) (sz := (((xs (iq + 1)).toInt64 <<< ((zN 32).toInt64 &&& 63)) ||| ((xs (iq + 2)).toInt64 &&& 4294967295))) (pq := (xs (iq + 3))) hC
  have i6 : pwIsC w N9 6 = true := ci_ hC.1
  have hO1 : w1 (N9 + 290) = .inl (1, 1, .inr (.inl fz)) := by rw [a2 _ (by omega)]; exact hO
  obtain ⟨e0, e1, e2, e3, e4⟩ := lds hb hi hL
  have hcd := cd_simulate (Fq := Fq) (sz := (((xs (iq + 1)).toInt64 <<< ((zN 32).toInt64 &&& 63)) ||| ((xs (iq + 2)).toInt64 &&& 4294967295))) (pq := (xs (iq + 3)))
  generalize hf : (fSim Fq (((xs (iq + 1)).toInt64 <<< ((zN 32).toInt64 &&& 63)) ||| ((xs (iq + 2)).toInt64 &&& 4294967295)) (xs (iq + 3))) = rv at *
  obtain ⟨cd, vq⟩ := rv
  dsimp only at a1 a3 hcd
  obtain ⟨g2, w2, f2, r1, r2, r3, r4, r5⟩ := lw_go (l_simulate i6 a3 hcd hO1) hO1
  have hfr : ∀ aq, aq < N9 ∨ (N9 + 280 ≤ aq ∧ aq ≠ N9 + 290) → w2 aq = w aq := fun aq ha => by rw [r3 aq (by omega)]; exact a2 aq (by omega)
  have hM2 : w2 = mkM (N9 + 280) sc Rq w2 := mkM_cong (fun aq c1 c2 => hfr aq (by omega)) hM
  obtain ⟨s1, R1, b1, b2, b3⟩ := y_sim (so := so) (g := g2) (bq := N9 + 280) (w := w2) (sc := sc) (Rq := Rq) (Fq := Fq) (sz := (((xs (iq + 1)).toInt64 <<< ((zN 32).toInt64 &&& 63)) ||| ((xs (iq + 2)).toInt64 &&& 4294967295))) (pq := (xs (iq + 3))) hR
  have b4 := y_thrown (so := so) (g := g2) (bq := N9 + 280) (sc := s1) (Rq := R1) (w := w2)
  rw [hf] at b2 b3
  rw [b2] at b4
  rw [← hM2] at b3
  dsimp only at b3 b4
  have j7 : pwIsC w2 (N9 + 280) 7 = true := by rw [hM2]; exact mm_i
  have hb2 : w2 bq = .inl (4, L9, .inl xs) := by rw [hfr bq (by omega)]; exact hb
  obtain ⟨d0, d1, d2, d3, d4⟩ := lds hb2 hi hL
  have hO3 : mkM (N9 + 280) s1 R1 w2 (N9 + 290) = .inl (1, 1, .inr (.inl f2)) := by rw [mm_o (by omega)]; exact r4
  have hj := ldJ hO3
  refine ⟨Fq, g2, mkM (N9 + 280) s1 R1 w2, some (.int (zN cd)), some (.int vq), ?_, r2, ?_⟩
  · exact LW_mk (cls_fr (fun aq c1 c2 => r3 aq (by omega)) a1) b1 ⟨f2, r4⟩ hb2 hbN (soW_f2 hs (fun aq ha => hfr aq (Or.inl ha)))
  · by_cases h0 : cd = 0
    · rw [r5 h0] at hj
      rw [h0] at r1 b4 ⊢
      simp (disch := omega) only [s_L_law_1513, s_L_law_1514, s_L_law_1515, s_L_law_1517, s_L_law_1518, s_L_law_1519, s_L_law_1520, s_L_law_1521, s_L_law_1523, s_L_law_1524, s_L_law_1525, s_L_law_1527, s_L_law_1528, s_L_law_1529, s_L_law_1530, s_L_law_1531, s_L_law_1534, s_L_law_1535, s_L_law_1536, s_L_law_1537, s_L_law_1539, s_L_law_1540, s_L_law_1541, s_L_law_1542, s_L_law_1543, s_L_law_1546, s_L_law_1548, s_L_law_1549, s_L_law_1550, s_L_law_1552, s_L_law_1553, s_L_law_1554, s_L_law_1555, s_L_law_1556, s_L_law_1558, s_L_law_1559, s_L_law_1560, s_L_law_1562, s_L_law_1563, s_L_law_1564, s_L_law_1565, s_L_law_1566, s_L_law_1569, s_L_law_1570, s_L_law_1571, s_L_law_1572, s_L_law_1574, s_L_law_1575, s_L_law_1576, s_L_law_1577, s_L_law_1580, s_L_law_1582, s_L_law_1583, s_L_law_1586, s_L_law_1588, s_L_law_1591, s_L_law_1592, s_L_law_1593, s_L_law_1595, s_L_law_1598, s_L_law_1599, s_L_law_1600, s_L_law_1601, s_L_law_1603, s_L_law_1604, s_L_law_1605, s_L_law_1608, s_L_law_1609, s_L_law_1610, s_L_law_1725, s_L_law_1728, zN_neg1, nL0, nL1, nL2, nL3, nL4, nL5, nL6, nL7, nL8, nL9, nL10, nL11, nL12, nL13, nL14, nL20, nL21, nL22, nL23, nL25, nL32, nL33, nL39, nL40, nL43, nL44, nL99, nL100, nL120, nL216, nL217, nL218, nL219, nL220, nL221, nL500, nL999, nL1000, nL10000, nL100000, sh33, zN_lt, zN_le, zN_eq, zN_ge0, zN_lt0, zN_nm, zN_mn, zN_mlt, zN_ltm, zN_lem, zN_mle, zN_m1, zN_m2, zN_addm, zN_ofNat, zN_beq, zN_add, zN_sub, zN_mul, zN_rem, qT_lt, qF_lt, qT_le, qF_le, qT_eq, qF_eq, ↓reduceIte, and_true, true_and, false_and, and_false, not_true_eq_false, not_false_eq_true, decide_true, decide_false, Bool.true_or, Bool.or_true, Bool.false_or, Bool.or_false, cond_true, cond_false, qbi, qb1, qb0, qAv, cond_true, Option.bind_some, i6, j7, mm_i, e0, e1, e2, e3, e4, d0, d1, d2, d3, d4, r1, b3, b4, hj, lcE0]
    · simp (disch := omega) only [s_L_law_1513, s_L_law_1514, s_L_law_1515, s_L_law_1517, s_L_law_1518, s_L_law_1519, s_L_law_1520, s_L_law_1521, s_L_law_1523, s_L_law_1524, s_L_law_1525, s_L_law_1527, s_L_law_1528, s_L_law_1529, s_L_law_1530, s_L_law_1531, s_L_law_1534, s_L_law_1535, s_L_law_1536, s_L_law_1537, s_L_law_1539, s_L_law_1540, s_L_law_1541, s_L_law_1542, s_L_law_1543, s_L_law_1546, s_L_law_1548, s_L_law_1549, s_L_law_1550, s_L_law_1552, s_L_law_1553, s_L_law_1554, s_L_law_1555, s_L_law_1556, s_L_law_1558, s_L_law_1559, s_L_law_1560, s_L_law_1562, s_L_law_1563, s_L_law_1564, s_L_law_1565, s_L_law_1566, s_L_law_1569, s_L_law_1570, s_L_law_1571, s_L_law_1572, s_L_law_1574, s_L_law_1575, s_L_law_1576, s_L_law_1577, s_L_law_1580, s_L_law_1582, s_L_law_1583, s_L_law_1586, s_L_law_1588, s_L_law_1591, s_L_law_1592, s_L_law_1593, s_L_law_1595, s_L_law_1598, s_L_law_1599, s_L_law_1600, s_L_law_1601, s_L_law_1603, s_L_law_1604, s_L_law_1605, s_L_law_1608, s_L_law_1609, s_L_law_1610, s_L_law_1725, s_L_law_1728, zN_neg1, nL0, nL1, nL2, nL3, nL4, nL5, nL6, nL7, nL8, nL9, nL10, nL11, nL12, nL13, nL14, nL20, nL21, nL22, nL23, nL25, nL32, nL33, nL39, nL40, nL43, nL44, nL99, nL100, nL120, nL216, nL217, nL218, nL219, nL220, nL221, nL500, nL999, nL1000, nL10000, nL100000, sh33, zN_lt, zN_le, zN_eq, zN_ge0, zN_lt0, zN_nm, zN_mn, zN_mlt, zN_ltm, zN_lem, zN_mle, zN_m1, zN_m2, zN_addm, zN_ofNat, zN_beq, zN_add, zN_sub, zN_mul, zN_rem, qT_lt, qF_lt, qT_le, qF_le, qT_eq, qF_eq, ↓reduceIte, and_true, true_and, false_and, and_false, not_true_eq_false, not_false_eq_true, decide_true, decide_false, Bool.true_or, Bool.or_true, Bool.false_or, Bool.or_false, cond_true, cond_false, qbi, qb1, qb0, qAv, cond_true, Option.bind_some, i6, j7, mm_i, e0, e1, e2, e3, e4, d0, d1, d2, d3, d4, r1, b3, b4, hj, h0]
theorem k_save (h : LW so bq L9 N9 xs Fq w) (hi : iq + 5 ≤ L9) (hL : L9 ≤ 2560) : ∃ (F9 : FS) (g9 : pwG) (w9 : pwW) (p5 p6 : Option Value), LW so bq L9 N9 xs F9 w9 ∧ (g9.2.2.1 ≤ g.2.2.1 + 1 ∧ g9.2.2.2 ≤ g.2.2.2 + 6) ∧ pwX so 243 1613 [some (.ref bq), some (.ref N9), some (.ref (N9 + 280)), some (.ref (N9 + 290)), some (.int (zN iq)), o5, o6] [] g w = pwX so 243 23 [some (.ref bq), some (.ref N9), some (.ref (N9 + 280)), some (.ref (N9 + 290)), some (.int (zN (iq + 5))), p5, p6] [] g9 w9 := by
  obtain ⟨hC, ⟨sc, Rq, hM, hR⟩, ⟨fz, hO⟩, hb, hbN, hs⟩ := h
  obtain ⟨w1, a1, a2, a3⟩ := x_save (so := so) (g := g) (xx := N9) (w := w) (Fq := Fq) (kq := (xs (iq + 1))) hC
  have i6 : pwIsC w N9 6 = true := ci_ hC.1
  have hO1 : w1 (N9 + 290) = .inl (1, 1, .inr (.inl fz)) := by rw [a2 _ (by omega)]; exact hO
  obtain ⟨e0, e1, e2, e3, e4⟩ := lds hb hi hL
  have hcd := cd_save (Fq := Fq) (kq := (xs (iq + 1)))
  generalize hf : (fSave Fq (xs (iq + 1))) = rv at *
  obtain ⟨⟨cd, vq⟩, F9⟩ := rv
  dsimp only at a1 a3 hcd
  obtain ⟨g2, w2, f2, r1, r2, r3, r4, r5⟩ := lw_go (l_save i6 a3 hcd hO1) hO1
  have hfr : ∀ aq, aq < N9 ∨ (N9 + 280 ≤ aq ∧ aq ≠ N9 + 290) → w2 aq = w aq := fun aq ha => by rw [r3 aq (by omega)]; exact a2 aq (by omega)
  have hM2 : w2 = mkM (N9 + 280) sc Rq w2 := mkM_cong (fun aq c1 c2 => hfr aq (by omega)) hM
  obtain ⟨s1, R1, b1, b2, b3⟩ := y_save (so := so) (g := g2) (bq := N9 + 280) (w := w2) (sc := sc) (Rq := Rq) (Fq := Fq) (kq := (xs (iq + 1))) hR
  have b4 := y_thrown (so := so) (g := g2) (bq := N9 + 280) (sc := s1) (Rq := R1) (w := w2)
  rw [hf] at b1 b2 b3
  rw [b2] at b4
  rw [← hM2] at b3
  dsimp only at b3 b4
  have j7 : pwIsC w2 (N9 + 280) 7 = true := by rw [hM2]; exact mm_i
  have hb2 : w2 bq = .inl (4, L9, .inl xs) := by rw [hfr bq (by omega)]; exact hb
  obtain ⟨d0, d1, d2, d3, d4⟩ := lds hb2 hi hL
  have hO3 : mkM (N9 + 280) s1 R1 w2 (N9 + 290) = .inl (1, 1, .inr (.inl f2)) := by rw [mm_o (by omega)]; exact r4
  have hj := ldJ hO3
  refine ⟨F9, g2, mkM (N9 + 280) s1 R1 w2, some (.int (zN cd)), some (.int vq), ?_, r2, ?_⟩
  · exact LW_mk (cls_fr (fun aq c1 c2 => r3 aq (by omega)) a1) b1 ⟨f2, r4⟩ hb2 hbN (soW_f2 hs (fun aq ha => hfr aq (Or.inl ha)))
  · by_cases h0 : cd = 0
    · rw [r5 h0] at hj
      rw [h0] at r1 b4 ⊢
      simp (disch := omega) only [s_L_law_1613, s_L_law_1614, s_L_law_1615, s_L_law_1617, s_L_law_1618, s_L_law_1619, s_L_law_1620, s_L_law_1621, s_L_law_1624, s_L_law_1626, s_L_law_1627, s_L_law_1628, s_L_law_1630, s_L_law_1631, s_L_law_1632, s_L_law_1633, s_L_law_1636, s_L_law_1638, s_L_law_1639, s_L_law_1642, s_L_law_1644, s_L_law_1647, s_L_law_1648, s_L_law_1649, s_L_law_1651, s_L_law_1654, s_L_law_1655, s_L_law_1656, s_L_law_1657, s_L_law_1659, s_L_law_1660, s_L_law_1661, s_L_law_1664, s_L_law_1665, s_L_law_1666, s_L_law_1725, s_L_law_1728, zN_neg1, nL0, nL1, nL2, nL3, nL4, nL5, nL6, nL7, nL8, nL9, nL10, nL11, nL12, nL13, nL14, nL20, nL21, nL22, nL23, nL25, nL32, nL33, nL39, nL40, nL43, nL44, nL99, nL100, nL120, nL216, nL217, nL218, nL219, nL220, nL221, nL500, nL999, nL1000, nL10000, nL100000, sh33, zN_lt, zN_le, zN_eq, zN_ge0, zN_lt0, zN_nm, zN_mn, zN_mlt, zN_ltm, zN_lem, zN_mle, zN_m1, zN_m2, zN_addm, zN_ofNat, zN_beq, zN_add, zN_sub, zN_mul, zN_rem, qT_lt, qF_lt, qT_le, qF_le, qT_eq, qF_eq, ↓reduceIte, and_true, true_and, false_and, and_false, not_true_eq_false, not_false_eq_true, decide_true, decide_false, Bool.true_or, Bool.or_true, Bool.false_or, Bool.or_false, cond_true, cond_false, qbi, qb1, qb0, qAv, cond_true, Option.bind_some, i6, j7, mm_i, e0, e1, e2, e3, e4, d0, d1, d2, d3, d4, r1, b3, b4, hj, lcE0]
    · simp (disch := omega) only [s_L_law_1613, s_L_law_1614, s_L_law_1615, s_L_law_1617, s_L_law_1618, s_L_law_1619, s_L_law_1620, s_L_law_1621, s_L_law_1624, s_L_law_1626, s_L_law_1627, s_L_law_1628, s_L_law_1630, s_L_law_1631, s_L_law_1632, s_L_law_1633, s_L_law_1636, s_L_law_1638, s_L_law_1639, s_L_law_1642, s_L_law_1644, s_L_law_1647, s_L_law_1648, s_L_law_1649, s_L_law_1651, s_L_law_1654, s_L_law_1655, s_L_law_1656, s_L_law_1657, s_L_law_1659, s_L_law_1660, s_L_law_1661, s_L_law_1664, s_L_law_1665, s_L_law_1666, s_L_law_1725, s_L_law_1728, zN_neg1, nL0, nL1, nL2, nL3, nL4, nL5, nL6, nL7, nL8, nL9, nL10, nL11, nL12, nL13, nL14, nL20, nL21, nL22, nL23, nL25, nL32, nL33, nL39, nL40, nL43, nL44, nL99, nL100, nL120, nL216, nL217, nL218, nL219, nL220, nL221, nL500, nL999, nL1000, nL10000, nL100000, sh33, zN_lt, zN_le, zN_eq, zN_ge0, zN_lt0, zN_nm, zN_mn, zN_mlt, zN_ltm, zN_lem, zN_mle, zN_m1, zN_m2, zN_addm, zN_ofNat, zN_beq, zN_add, zN_sub, zN_mul, zN_rem, qT_lt, qF_lt, qT_le, qF_le, qT_eq, qF_eq, ↓reduceIte, and_true, true_and, false_and, and_false, not_true_eq_false, not_false_eq_true, decide_true, decide_false, Bool.true_or, Bool.or_true, Bool.false_or, Bool.or_false, cond_true, cond_false, qbi, qb1, qb0, qAv, cond_true, Option.bind_some, i6, j7, mm_i, e0, e1, e2, e3, e4, d0, d1, d2, d3, d4, r1, b3, b4, hj, h0]
theorem k_restore (h : LW so bq L9 N9 xs Fq w) (hi : iq + 5 ≤ L9) (hL : L9 ≤ 2560) : ∃ (F9 : FS) (g9 : pwG) (w9 : pwW) (p5 p6 : Option Value), LW so bq L9 N9 xs F9 w9 ∧ (g9.2.2.1 ≤ g.2.2.1 + 1 ∧ g9.2.2.2 ≤ g.2.2.2 + 6) ∧ pwX so 243 1669 [some (.ref bq), some (.ref N9), some (.ref (N9 + 280)), some (.ref (N9 + 290)), some (.int (zN iq)), o5, o6] [] g w = pwX so 243 23 [some (.ref bq), some (.ref N9), some (.ref (N9 + 280)), some (.ref (N9 + 290)), some (.int (zN (iq + 5))), p5, p6] [] g9 w9 := by
  obtain ⟨hC, ⟨sc, Rq, hM, hR⟩, ⟨fz, hO⟩, hb, hbN, hs⟩ := h
  obtain ⟨w1, a1, a2, a3⟩ := x_rest (so := so) (g := g) (xx := N9) (w := w) (Fq := Fq) (kq := (xs (iq + 1))) hC
  have i6 : pwIsC w N9 6 = true := ci_ hC.1
  have hO1 : w1 (N9 + 290) = .inl (1, 1, .inr (.inl fz)) := by rw [a2 _ (by omega)]; exact hO
  obtain ⟨e0, e1, e2, e3, e4⟩ := lds hb hi hL
  have hcd := cd_restore (Fq := Fq) (kq := (xs (iq + 1)))
  generalize hf : (fRest Fq (xs (iq + 1))) = rv at *
  obtain ⟨⟨cd, vq⟩, F9⟩ := rv
  dsimp only at a1 a3 hcd
  obtain ⟨g2, w2, f2, r1, r2, r3, r4, r5⟩ := lw_go (l_restore i6 a3 hcd hO1) hO1
  have hfr : ∀ aq, aq < N9 ∨ (N9 + 280 ≤ aq ∧ aq ≠ N9 + 290) → w2 aq = w aq := fun aq ha => by rw [r3 aq (by omega)]; exact a2 aq (by omega)
  have hM2 : w2 = mkM (N9 + 280) sc Rq w2 := mkM_cong (fun aq c1 c2 => hfr aq (by omega)) hM
  obtain ⟨s1, R1, b1, b2, b3⟩ := y_rest (so := so) (g := g2) (bq := N9 + 280) (w := w2) (sc := sc) (Rq := Rq) (Fq := Fq) (kq := (xs (iq + 1))) hR
  have b4 := y_thrown (so := so) (g := g2) (bq := N9 + 280) (sc := s1) (Rq := R1) (w := w2)
  rw [hf] at b1 b2 b3
  rw [b2] at b4
  rw [← hM2] at b3
  dsimp only at b3 b4
  have j7 : pwIsC w2 (N9 + 280) 7 = true := by rw [hM2]; exact mm_i
  have hb2 : w2 bq = .inl (4, L9, .inl xs) := by rw [hfr bq (by omega)]; exact hb
  obtain ⟨d0, d1, d2, d3, d4⟩ := lds hb2 hi hL
  have hO3 : mkM (N9 + 280) s1 R1 w2 (N9 + 290) = .inl (1, 1, .inr (.inl f2)) := by rw [mm_o (by omega)]; exact r4
  have hj := ldJ hO3
  refine ⟨F9, g2, mkM (N9 + 280) s1 R1 w2, some (.int (zN cd)), some (.int vq), ?_, r2, ?_⟩
  · exact LW_mk (cls_fr (fun aq c1 c2 => r3 aq (by omega)) a1) b1 ⟨f2, r4⟩ hb2 hbN (soW_f2 hs (fun aq ha => hfr aq (Or.inl ha)))
  · by_cases h0 : cd = 0
    · rw [r5 h0] at hj
      rw [h0] at r1 b4 ⊢
      simp (disch := omega) only [s_L_law_1669, s_L_law_1670, s_L_law_1671, s_L_law_1673, s_L_law_1674, s_L_law_1675, s_L_law_1676, s_L_law_1677, s_L_law_1680, s_L_law_1682, s_L_law_1683, s_L_law_1684, s_L_law_1686, s_L_law_1687, s_L_law_1688, s_L_law_1689, s_L_law_1692, s_L_law_1694, s_L_law_1695, s_L_law_1698, s_L_law_1700, s_L_law_1703, s_L_law_1704, s_L_law_1705, s_L_law_1707, s_L_law_1710, s_L_law_1711, s_L_law_1712, s_L_law_1713, s_L_law_1715, s_L_law_1716, s_L_law_1717, s_L_law_1720, s_L_law_1721, s_L_law_1722, s_L_law_1725, s_L_law_1728, zN_neg1, nL0, nL1, nL2, nL3, nL4, nL5, nL6, nL7, nL8, nL9, nL10, nL11, nL12, nL13, nL14, nL20, nL21, nL22, nL23, nL25, nL32, nL33, nL39, nL40, nL43, nL44, nL99, nL100, nL120, nL216, nL217, nL218, nL219, nL220, nL221, nL500, nL999, nL1000, nL10000, nL100000, sh33, zN_lt, zN_le, zN_eq, zN_ge0, zN_lt0, zN_nm, zN_mn, zN_mlt, zN_ltm, zN_lem, zN_mle, zN_m1, zN_m2, zN_addm, zN_ofNat, zN_beq, zN_add, zN_sub, zN_mul, zN_rem, qT_lt, qF_lt, qT_le, qF_le, qT_eq, qF_eq, ↓reduceIte, and_true, true_and, false_and, and_false, not_true_eq_false, not_false_eq_true, decide_true, decide_false, Bool.true_or, Bool.or_true, Bool.false_or, Bool.or_false, cond_true, cond_false, qbi, qb1, qb0, qAv, cond_true, Option.bind_some, i6, j7, mm_i, e0, e1, e2, e3, e4, d0, d1, d2, d3, d4, r1, b3, b4, hj, lcE0]
    · simp (disch := omega) only [s_L_law_1669, s_L_law_1670, s_L_law_1671, s_L_law_1673, s_L_law_1674, s_L_law_1675, s_L_law_1676, s_L_law_1677, s_L_law_1680, s_L_law_1682, s_L_law_1683, s_L_law_1684, s_L_law_1686, s_L_law_1687, s_L_law_1688, s_L_law_1689, s_L_law_1692, s_L_law_1694, s_L_law_1695, s_L_law_1698, s_L_law_1700, s_L_law_1703, s_L_law_1704, s_L_law_1705, s_L_law_1707, s_L_law_1710, s_L_law_1711, s_L_law_1712, s_L_law_1713, s_L_law_1715, s_L_law_1716, s_L_law_1717, s_L_law_1720, s_L_law_1721, s_L_law_1722, s_L_law_1725, s_L_law_1728, zN_neg1, nL0, nL1, nL2, nL3, nL4, nL5, nL6, nL7, nL8, nL9, nL10, nL11, nL12, nL13, nL14, nL20, nL21, nL22, nL23, nL25, nL32, nL33, nL39, nL40, nL43, nL44, nL99, nL100, nL120, nL216, nL217, nL218, nL219, nL220, nL221, nL500, nL999, nL1000, nL10000, nL100000, sh33, zN_lt, zN_le, zN_eq, zN_ge0, zN_lt0, zN_nm, zN_mn, zN_mlt, zN_ltm, zN_lem, zN_mle, zN_m1, zN_m2, zN_addm, zN_ofNat, zN_beq, zN_add, zN_sub, zN_mul, zN_rem, qT_lt, qF_lt, qT_le, qF_le, qT_eq, qF_eq, ↓reduceIte, and_true, true_and, false_and, and_false, not_true_eq_false, not_false_eq_true, decide_true, decide_false, Bool.true_or, Bool.or_true, Bool.false_or, Bool.or_false, cond_true, cond_false, qbi, qb1, qb0, qAv, cond_true, Option.bind_some, i6, j7, mm_i, e0, e1, e2, e3, e4, d0, d1, d2, d3, d4, r1, b3, b4, hj, h0]
end QA

/-! the pure part: the law's cases 7 to 13 -/
section QA
variable {so : Nat → Nat} {g : pwG} {bq L9 N9 iq : Nat} {w : pwW} {xs : Nat → Int32} {Fq : FS} {o5 o6 : Option Value}
theorem k_cell (h : LW so bq L9 N9 xs Fq w) (hi : iq + 5 ≤ L9) (hL : L9 ≤ 2560) : ∃ (F9 : FS) (g9 : pwG) (w9 : pwW) (p5 p6 : Option Value), LW so bq L9 N9 xs F9 w9 ∧ (g9.2.2.1 ≤ g.2.2.1 + 1 ∧ g9.2.2.2 ≤ g.2.2.2 + 6) ∧ pwX so 243 482 [some (.ref bq), some (.ref N9), some (.ref (N9 + 280)), some (.ref (N9 + 290)), some (.int (zN iq)), o5, o6] [] g w = pwX so 243 23 [some (.ref bq), some (.ref N9), some (.ref (N9 + 280)), some (.ref (N9 + 290)), some (.int (zN (iq + 5))), p5, p6] [] g9 w9 := by
  obtain ⟨hC, ⟨sc, Rq, hM, hR⟩, ⟨fz, hO⟩, hb, hbN, hs⟩ := h
  obtain ⟨w1, a1, a2, a3⟩ := x_cell (so := so) (g := g) (xx := N9) (w := w) (Fq := Fq) (kq := (xs (iq + 1))) (pq := (xs (iq + 2))) hC
  have i6 : pwIsC w N9 6 = true := ci_ hC.1
  have hO1 : w1 (N9 + 290) = .inl (1, 1, .inr (.inl fz)) := by rw [a2 _ (by omega)]; exact hO
  obtain ⟨e0, e1, e2, e3, e4⟩ := lds hb hi hL
  have hcd := cd_cell (Fq := Fq) (kq := (xs (iq + 1))) (pq := (xs (iq + 2)))
  generalize hf : (fCell Fq (xs (iq + 1)) (xs (iq + 2))) = rv at *
  obtain ⟨cd, vq⟩ := rv
  dsimp only at a1 a3 hcd
  obtain ⟨g2, w2, f2, r1, r2, r3, r4, r5⟩ := lw_go (l_cell i6 a3 hcd hO1) hO1
  have hfr : ∀ aq, aq < N9 ∨ (N9 + 280 ≤ aq ∧ aq ≠ N9 + 290) → w2 aq = w aq := fun aq ha => by rw [r3 aq (by omega)]; exact a2 aq (by omega)
  have hM2 : w2 = mkM (N9 + 280) sc Rq w2 := mkM_cong (fun aq c1 c2 => hfr aq (by omega)) hM
  obtain ⟨s1, R1, b1, b2, b3⟩ := y_cell (so := so) (g := g2) (bq := N9 + 280) (w := w2) (sc := sc) (Rq := Rq) (Fq := Fq) (kq := (xs (iq + 1))) (pq := (xs (iq + 2))) hR
  have b4 := y_thrown (so := so) (g := g2) (bq := N9 + 280) (sc := s1) (Rq := R1) (w := w2)
  rw [hf] at b2 b3
  rw [b2] at b4
  rw [← hM2] at b3
  dsimp only at b3 b4
  have j7 : pwIsC w2 (N9 + 280) 7 = true := by rw [hM2]; exact mm_i
  have hb2 : w2 bq = .inl (4, L9, .inl xs) := by rw [hfr bq (by omega)]; exact hb
  obtain ⟨d0, d1, d2, d3, d4⟩ := lds hb2 hi hL
  have hO3 : mkM (N9 + 280) s1 R1 w2 (N9 + 290) = .inl (1, 1, .inr (.inl f2)) := by rw [mm_o (by omega)]; exact r4
  have hj := ldJ hO3
  refine ⟨Fq, g2, mkM (N9 + 280) s1 R1 w2, some (.int (zN cd)), some (.int vq), ?_, r2, ?_⟩
  · exact LW_mk (cls_fr (fun aq c1 c2 => r3 aq (by omega)) a1) b1 ⟨f2, r4⟩ hb2 hbN (soW_f2 hs (fun aq ha => hfr aq (Or.inl ha)))
  · by_cases h0 : cd = 0
    · rw [r5 h0] at hj
      rw [h0] at r1 b4 ⊢
      simp (disch := omega) only [s_L_law_482, s_L_law_483, s_L_law_484, s_L_law_486, s_L_law_487, s_L_law_488, s_L_law_489, s_L_law_490, s_L_law_492, s_L_law_493, s_L_law_494, s_L_law_495, s_L_law_496, s_L_law_499, s_L_law_501, s_L_law_502, s_L_law_503, s_L_law_505, s_L_law_506, s_L_law_507, s_L_law_508, s_L_law_509, s_L_law_511, s_L_law_512, s_L_law_513, s_L_law_514, s_L_law_517, s_L_law_519, s_L_law_520, s_L_law_523, s_L_law_525, s_L_law_528, s_L_law_529, s_L_law_530, s_L_law_532, s_L_law_535, s_L_law_536, s_L_law_537, s_L_law_538, s_L_law_540, s_L_law_541, s_L_law_542, s_L_law_545, s_L_law_546, s_L_law_547, s_L_law_1725, s_L_law_1728, zN_neg1, nL0, nL1, nL2, nL3, nL4, nL5, nL6, nL7, nL8, nL9, nL10, nL11, nL12, nL13, nL14, nL20, nL21, nL22, nL23, nL25, nL32, nL33, nL39, nL40, nL43, nL44, nL99, nL100, nL120, nL216, nL217, nL218, nL219, nL220, nL221, nL500, nL999, nL1000, nL10000, nL100000, sh33, zN_lt, zN_le, zN_eq, zN_ge0, zN_lt0, zN_nm, zN_mn, zN_mlt, zN_ltm, zN_lem, zN_mle, zN_m1, zN_m2, zN_addm, zN_ofNat, zN_beq, zN_add, zN_sub, zN_mul, zN_rem, qT_lt, qF_lt, qT_le, qF_le, qT_eq, qF_eq, ↓reduceIte, and_true, true_and, false_and, and_false, not_true_eq_false, not_false_eq_true, decide_true, decide_false, Bool.true_or, Bool.or_true, Bool.false_or, Bool.or_false, cond_true, cond_false, qbi, qb1, qb0, qAv, cond_true, Option.bind_some, i6, j7, mm_i, e0, e1, e2, e3, e4, d0, d1, d2, d3, d4, r1, b3, b4, hj, lcE0]
    · simp (disch := omega) only [s_L_law_482, s_L_law_483, s_L_law_484, s_L_law_486, s_L_law_487, s_L_law_488, s_L_law_489, s_L_law_490, s_L_law_492, s_L_law_493, s_L_law_494, s_L_law_495, s_L_law_496, s_L_law_499, s_L_law_501, s_L_law_502, s_L_law_503, s_L_law_505, s_L_law_506, s_L_law_507, s_L_law_508, s_L_law_509, s_L_law_511, s_L_law_512, s_L_law_513, s_L_law_514, s_L_law_517, s_L_law_519, s_L_law_520, s_L_law_523, s_L_law_525, s_L_law_528, s_L_law_529, s_L_law_530, s_L_law_532, s_L_law_535, s_L_law_536, s_L_law_537, s_L_law_538, s_L_law_540, s_L_law_541, s_L_law_542, s_L_law_545, s_L_law_546, s_L_law_547, s_L_law_1725, s_L_law_1728, zN_neg1, nL0, nL1, nL2, nL3, nL4, nL5, nL6, nL7, nL8, nL9, nL10, nL11, nL12, nL13, nL14, nL20, nL21, nL22, nL23, nL25, nL32, nL33, nL39, nL40, nL43, nL44, nL99, nL100, nL120, nL216, nL217, nL218, nL219, nL220, nL221, nL500, nL999, nL1000, nL10000, nL100000, sh33, zN_lt, zN_le, zN_eq, zN_ge0, zN_lt0, zN_nm, zN_mn, zN_mlt, zN_ltm, zN_lem, zN_mle, zN_m1, zN_m2, zN_addm, zN_ofNat, zN_beq, zN_add, zN_sub, zN_mul, zN_rem, qT_lt, qF_lt, qT_le, qF_le, qT_eq, qF_eq, ↓reduceIte, and_true, true_and, false_and, and_false, not_true_eq_false, not_false_eq_true, decide_true, decide_false, Bool.true_or, Bool.or_true, Bool.false_or, Bool.or_false, cond_true, cond_false, qbi, qb1, qb0, qAv, cond_true, Option.bind_some, i6, j7, mm_i, e0, e1, e2, e3, e4, d0, d1, d2, d3, d4, r1, b3, b4, hj, h0]
theorem k_file (h : LW so bq L9 N9 xs Fq w) (hi : iq + 5 ≤ L9) (hL : L9 ≤ 2560) : ∃ (F9 : FS) (g9 : pwG) (w9 : pwW) (p5 p6 : Option Value), LW so bq L9 N9 xs F9 w9 ∧ (g9.2.2.1 ≤ g.2.2.1 + 1 ∧ g9.2.2.2 ≤ g.2.2.2 + 6) ∧ pwX so 243 550 [some (.ref bq), some (.ref N9), some (.ref (N9 + 280)), some (.ref (N9 + 290)), some (.int (zN iq)), o5, o6] [] g w = pwX so 243 23 [some (.ref bq), some (.ref N9), some (.ref (N9 + 280)), some (.ref (N9 + 290)), some (.int (zN (iq + 5))), p5, p6] [] g9 w9 := by
  obtain ⟨hC, ⟨sc, Rq, hM, hR⟩, ⟨fz, hO⟩, hb, hbN, hs⟩ := h
  obtain ⟨w1, a1, a2, a3⟩ := x_file (so := so) (g := g) (xx := N9) (w := w) (Fq := Fq) (kq := (xs (iq + 1))) hC
  have i6 : pwIsC w N9 6 = true := ci_ hC.1
  have hO1 : w1 (N9 + 290) = .inl (1, 1, .inr (.inl fz)) := by rw [a2 _ (by omega)]; exact hO
  obtain ⟨e0, e1, e2, e3, e4⟩ := lds hb hi hL
  have hcd := cd_file (Fq := Fq) (kq := (xs (iq + 1)))
  generalize hf : (fFile Fq (xs (iq + 1))) = rv at *
  obtain ⟨cd, vq⟩ := rv
  dsimp only at a1 a3 hcd
  obtain ⟨g2, w2, f2, r1, r2, r3, r4, r5⟩ := lw_go (l_file i6 a3 hcd hO1) hO1
  have hfr : ∀ aq, aq < N9 ∨ (N9 + 280 ≤ aq ∧ aq ≠ N9 + 290) → w2 aq = w aq := fun aq ha => by rw [r3 aq (by omega)]; exact a2 aq (by omega)
  have hM2 : w2 = mkM (N9 + 280) sc Rq w2 := mkM_cong (fun aq c1 c2 => hfr aq (by omega)) hM
  obtain ⟨s1, R1, b1, b2, b3⟩ := y_file (so := so) (g := g2) (bq := N9 + 280) (w := w2) (sc := sc) (Rq := Rq) (Fq := Fq) (kq := (xs (iq + 1))) hR
  have b4 := y_thrown (so := so) (g := g2) (bq := N9 + 280) (sc := s1) (Rq := R1) (w := w2)
  rw [hf] at b2 b3
  rw [b2] at b4
  rw [← hM2] at b3
  dsimp only at b3 b4
  have j7 : pwIsC w2 (N9 + 280) 7 = true := by rw [hM2]; exact mm_i
  have hb2 : w2 bq = .inl (4, L9, .inl xs) := by rw [hfr bq (by omega)]; exact hb
  obtain ⟨d0, d1, d2, d3, d4⟩ := lds hb2 hi hL
  have hO3 : mkM (N9 + 280) s1 R1 w2 (N9 + 290) = .inl (1, 1, .inr (.inl f2)) := by rw [mm_o (by omega)]; exact r4
  have hj := ldJ hO3
  refine ⟨Fq, g2, mkM (N9 + 280) s1 R1 w2, some (.int (zN cd)), some (.int vq), ?_, r2, ?_⟩
  · exact LW_mk (cls_fr (fun aq c1 c2 => r3 aq (by omega)) a1) b1 ⟨f2, r4⟩ hb2 hbN (soW_f2 hs (fun aq ha => hfr aq (Or.inl ha)))
  · by_cases h0 : cd = 0
    · rw [r5 h0] at hj
      rw [h0] at r1 b4 ⊢
      simp (disch := omega) only [s_L_law_550, s_L_law_551, s_L_law_552, s_L_law_554, s_L_law_555, s_L_law_556, s_L_law_557, s_L_law_558, s_L_law_561, s_L_law_563, s_L_law_564, s_L_law_565, s_L_law_567, s_L_law_568, s_L_law_569, s_L_law_570, s_L_law_573, s_L_law_575, s_L_law_576, s_L_law_579, s_L_law_581, s_L_law_584, s_L_law_585, s_L_law_586, s_L_law_588, s_L_law_591, s_L_law_592, s_L_law_593, s_L_law_594, s_L_law_596, s_L_law_597, s_L_law_598, s_L_law_601, s_L_law_602, s_L_law_603, s_L_law_1725, s_L_law_1728, zN_neg1, nL0, nL1, nL2, nL3, nL4, nL5, nL6, nL7, nL8, nL9, nL10, nL11, nL12, nL13, nL14, nL20, nL21, nL22, nL23, nL25, nL32, nL33, nL39, nL40, nL43, nL44, nL99, nL100, nL120, nL216, nL217, nL218, nL219, nL220, nL221, nL500, nL999, nL1000, nL10000, nL100000, sh33, zN_lt, zN_le, zN_eq, zN_ge0, zN_lt0, zN_nm, zN_mn, zN_mlt, zN_ltm, zN_lem, zN_mle, zN_m1, zN_m2, zN_addm, zN_ofNat, zN_beq, zN_add, zN_sub, zN_mul, zN_rem, qT_lt, qF_lt, qT_le, qF_le, qT_eq, qF_eq, ↓reduceIte, and_true, true_and, false_and, and_false, not_true_eq_false, not_false_eq_true, decide_true, decide_false, Bool.true_or, Bool.or_true, Bool.false_or, Bool.or_false, cond_true, cond_false, qbi, qb1, qb0, qAv, cond_true, Option.bind_some, i6, j7, mm_i, e0, e1, e2, e3, e4, d0, d1, d2, d3, d4, r1, b3, b4, hj, lcE0]
    · simp (disch := omega) only [s_L_law_550, s_L_law_551, s_L_law_552, s_L_law_554, s_L_law_555, s_L_law_556, s_L_law_557, s_L_law_558, s_L_law_561, s_L_law_563, s_L_law_564, s_L_law_565, s_L_law_567, s_L_law_568, s_L_law_569, s_L_law_570, s_L_law_573, s_L_law_575, s_L_law_576, s_L_law_579, s_L_law_581, s_L_law_584, s_L_law_585, s_L_law_586, s_L_law_588, s_L_law_591, s_L_law_592, s_L_law_593, s_L_law_594, s_L_law_596, s_L_law_597, s_L_law_598, s_L_law_601, s_L_law_602, s_L_law_603, s_L_law_1725, s_L_law_1728, zN_neg1, nL0, nL1, nL2, nL3, nL4, nL5, nL6, nL7, nL8, nL9, nL10, nL11, nL12, nL13, nL14, nL20, nL21, nL22, nL23, nL25, nL32, nL33, nL39, nL40, nL43, nL44, nL99, nL100, nL120, nL216, nL217, nL218, nL219, nL220, nL221, nL500, nL999, nL1000, nL10000, nL100000, sh33, zN_lt, zN_le, zN_eq, zN_ge0, zN_lt0, zN_nm, zN_mn, zN_mlt, zN_ltm, zN_lem, zN_mle, zN_m1, zN_m2, zN_addm, zN_ofNat, zN_beq, zN_add, zN_sub, zN_mul, zN_rem, qT_lt, qF_lt, qT_le, qF_le, qT_eq, qF_eq, ↓reduceIte, and_true, true_and, false_and, and_false, not_true_eq_false, not_false_eq_true, decide_true, decide_false, Bool.true_or, Bool.or_true, Bool.false_or, Bool.or_false, cond_true, cond_false, qbi, qb1, qb0, qAv, cond_true, Option.bind_some, i6, j7, mm_i, e0, e1, e2, e3, e4, d0, d1, d2, d3, d4, r1, b3, b4, hj, h0]
theorem k_read (h : LW so bq L9 N9 xs Fq w) (hi : iq + 5 ≤ L9) (hL : L9 ≤ 2560) : ∃ (F9 : FS) (g9 : pwG) (w9 : pwW) (p5 p6 : Option Value), LW so bq L9 N9 xs F9 w9 ∧ (g9.2.2.1 ≤ g.2.2.1 + 1 ∧ g9.2.2.2 ≤ g.2.2.2 + 6) ∧ pwX so 243 606 [some (.ref bq), some (.ref N9), some (.ref (N9 + 280)), some (.ref (N9 + 290)), some (.int (zN iq)), o5, o6] [] g w = pwX so 243 23 [some (.ref bq), some (.ref N9), some (.ref (N9 + 280)), some (.ref (N9 + 290)), some (.int (zN (iq + 5))), p5, p6] [] g9 w9 := by
  obtain ⟨hC, ⟨sc, Rq, hM, hR⟩, ⟨fz, hO⟩, hb, hbN, hs⟩ := h
  obtain ⟨w1, a1, a2, a3⟩ := x_read (so := so) (g := g) (xx := N9) (w := w) (Fq := Fq) (kq := (xs (iq + 1))) (pq := (xs (iq + 2))) hC
  have i6 : pwIsC w N9 6 = true := ci_ hC.1
  have hO1 : w1 (N9 + 290) = .inl (1, 1, .inr (.inl fz)) := by rw [a2 _ (by omega)]; exact hO
  obtain ⟨e0, e1, e2, e3, e4⟩ := lds hb hi hL
  have hcd := cd_read (Fq := Fq) (kq := (xs (iq + 1))) (pq := (xs (iq + 2)))
  generalize hf : (fRead Fq (xs (iq + 1)) (xs (iq + 2))) = rv at *
  obtain ⟨cd, vq⟩ := rv
  dsimp only at a1 a3 hcd
  obtain ⟨g2, w2, f2, r1, r2, r3, r4, r5⟩ := lw_go (l_read i6 a3 hcd hO1) hO1
  have hfr : ∀ aq, aq < N9 ∨ (N9 + 280 ≤ aq ∧ aq ≠ N9 + 290) → w2 aq = w aq := fun aq ha => by rw [r3 aq (by omega)]; exact a2 aq (by omega)
  have hM2 : w2 = mkM (N9 + 280) sc Rq w2 := mkM_cong (fun aq c1 c2 => hfr aq (by omega)) hM
  obtain ⟨s1, R1, b1, b2, b3⟩ := y_read (so := so) (g := g2) (bq := N9 + 280) (w := w2) (sc := sc) (Rq := Rq) (Fq := Fq) (kq := (xs (iq + 1))) (pq := (xs (iq + 2))) hR
  have b4 := y_thrown (so := so) (g := g2) (bq := N9 + 280) (sc := s1) (Rq := R1) (w := w2)
  rw [hf] at b2 b3
  rw [b2] at b4
  rw [← hM2] at b3
  dsimp only at b3 b4
  have j7 : pwIsC w2 (N9 + 280) 7 = true := by rw [hM2]; exact mm_i
  have hb2 : w2 bq = .inl (4, L9, .inl xs) := by rw [hfr bq (by omega)]; exact hb
  obtain ⟨d0, d1, d2, d3, d4⟩ := lds hb2 hi hL
  have hO3 : mkM (N9 + 280) s1 R1 w2 (N9 + 290) = .inl (1, 1, .inr (.inl f2)) := by rw [mm_o (by omega)]; exact r4
  have hj := ldJ hO3
  refine ⟨Fq, g2, mkM (N9 + 280) s1 R1 w2, some (.int (zN cd)), some (.int vq), ?_, r2, ?_⟩
  · exact LW_mk (cls_fr (fun aq c1 c2 => r3 aq (by omega)) a1) b1 ⟨f2, r4⟩ hb2 hbN (soW_f2 hs (fun aq ha => hfr aq (Or.inl ha)))
  · by_cases h0 : cd = 0
    · rw [r5 h0] at hj
      rw [h0] at r1 b4 ⊢
      simp (disch := omega) only [s_L_law_606, s_L_law_607, s_L_law_608, s_L_law_610, s_L_law_611, s_L_law_612, s_L_law_613, s_L_law_614, s_L_law_616, s_L_law_617, s_L_law_618, s_L_law_619, s_L_law_620, s_L_law_623, s_L_law_625, s_L_law_626, s_L_law_627, s_L_law_629, s_L_law_630, s_L_law_631, s_L_law_632, s_L_law_633, s_L_law_635, s_L_law_636, s_L_law_637, s_L_law_638, s_L_law_641, s_L_law_643, s_L_law_644, s_L_law_647, s_L_law_649, s_L_law_652, s_L_law_653, s_L_law_654, s_L_law_656, s_L_law_659, s_L_law_660, s_L_law_661, s_L_law_662, s_L_law_664, s_L_law_665, s_L_law_666, s_L_law_669, s_L_law_670, s_L_law_671, s_L_law_1725, s_L_law_1728, zN_neg1, nL0, nL1, nL2, nL3, nL4, nL5, nL6, nL7, nL8, nL9, nL10, nL11, nL12, nL13, nL14, nL20, nL21, nL22, nL23, nL25, nL32, nL33, nL39, nL40, nL43, nL44, nL99, nL100, nL120, nL216, nL217, nL218, nL219, nL220, nL221, nL500, nL999, nL1000, nL10000, nL100000, sh33, zN_lt, zN_le, zN_eq, zN_ge0, zN_lt0, zN_nm, zN_mn, zN_mlt, zN_ltm, zN_lem, zN_mle, zN_m1, zN_m2, zN_addm, zN_ofNat, zN_beq, zN_add, zN_sub, zN_mul, zN_rem, qT_lt, qF_lt, qT_le, qF_le, qT_eq, qF_eq, ↓reduceIte, and_true, true_and, false_and, and_false, not_true_eq_false, not_false_eq_true, decide_true, decide_false, Bool.true_or, Bool.or_true, Bool.false_or, Bool.or_false, cond_true, cond_false, qbi, qb1, qb0, qAv, cond_true, Option.bind_some, i6, j7, mm_i, e0, e1, e2, e3, e4, d0, d1, d2, d3, d4, r1, b3, b4, hj, lcE0]
    · simp (disch := omega) only [s_L_law_606, s_L_law_607, s_L_law_608, s_L_law_610, s_L_law_611, s_L_law_612, s_L_law_613, s_L_law_614, s_L_law_616, s_L_law_617, s_L_law_618, s_L_law_619, s_L_law_620, s_L_law_623, s_L_law_625, s_L_law_626, s_L_law_627, s_L_law_629, s_L_law_630, s_L_law_631, s_L_law_632, s_L_law_633, s_L_law_635, s_L_law_636, s_L_law_637, s_L_law_638, s_L_law_641, s_L_law_643, s_L_law_644, s_L_law_647, s_L_law_649, s_L_law_652, s_L_law_653, s_L_law_654, s_L_law_656, s_L_law_659, s_L_law_660, s_L_law_661, s_L_law_662, s_L_law_664, s_L_law_665, s_L_law_666, s_L_law_669, s_L_law_670, s_L_law_671, s_L_law_1725, s_L_law_1728, zN_neg1, nL0, nL1, nL2, nL3, nL4, nL5, nL6, nL7, nL8, nL9, nL10, nL11, nL12, nL13, nL14, nL20, nL21, nL22, nL23, nL25, nL32, nL33, nL39, nL40, nL43, nL44, nL99, nL100, nL120, nL216, nL217, nL218, nL219, nL220, nL221, nL500, nL999, nL1000, nL10000, nL100000, sh33, zN_lt, zN_le, zN_eq, zN_ge0, zN_lt0, zN_nm, zN_mn, zN_mlt, zN_ltm, zN_lem, zN_mle, zN_m1, zN_m2, zN_addm, zN_ofNat, zN_beq, zN_add, zN_sub, zN_mul, zN_rem, qT_lt, qF_lt, qT_le, qF_le, qT_eq, qF_eq, ↓reduceIte, and_true, true_and, false_and, and_false, not_true_eq_false, not_false_eq_true, decide_true, decide_false, Bool.true_or, Bool.or_true, Bool.false_or, Bool.or_false, cond_true, cond_false, qbi, qb1, qb0, qAv, cond_true, Option.bind_some, i6, j7, mm_i, e0, e1, e2, e3, e4, d0, d1, d2, d3, d4, r1, b3, b4, hj, h0]
theorem k_walker (h : LW so bq L9 N9 xs Fq w) (hi : iq + 5 ≤ L9) (hL : L9 ≤ 2560) : ∃ (F9 : FS) (g9 : pwG) (w9 : pwW) (p5 p6 : Option Value), LW so bq L9 N9 xs F9 w9 ∧ (g9.2.2.1 ≤ g.2.2.1 + 1 ∧ g9.2.2.2 ≤ g.2.2.2 + 6) ∧ pwX so 243 674 [some (.ref bq), some (.ref N9), some (.ref (N9 + 280)), some (.ref (N9 + 290)), some (.int (zN iq)), o5, o6] [] g w = pwX so 243 23 [some (.ref bq), some (.ref N9), some (.ref (N9 + 280)), some (.ref (N9 + 290)), some (.int (zN (iq + 5))), p5, p6] [] g9 w9 := by
  obtain ⟨hC, ⟨sc, Rq, hM, hR⟩, ⟨fz, hO⟩, hb, hbN, hs⟩ := h
  obtain ⟨w1, a1, a2, a3⟩ := x_walker (so := so) (g := g) (xx := N9) (w := w) (Fq := Fq) (pq := (xs (iq + 1))) hC
  have i6 : pwIsC w N9 6 = true := ci_ hC.1
  have hO1 : w1 (N9 + 290) = .inl (1, 1, .inr (.inl fz)) := by rw [a2 _ (by omega)]; exact hO
  obtain ⟨e0, e1, e2, e3, e4⟩ := lds hb hi hL
  have hcd := cd_walker (Fq := Fq) (pq := (xs (iq + 1)))
  generalize hf : (fWalker Fq (xs (iq + 1))) = rv at *
  obtain ⟨⟨cd, vq⟩, F9⟩ := rv
  dsimp only at a1 a3 hcd
  obtain ⟨g2, w2, f2, r1, r2, r3, r4, r5⟩ := lw_go (l_walker i6 a3 hcd hO1) hO1
  have hfr : ∀ aq, aq < N9 ∨ (N9 + 280 ≤ aq ∧ aq ≠ N9 + 290) → w2 aq = w aq := fun aq ha => by rw [r3 aq (by omega)]; exact a2 aq (by omega)
  have hM2 : w2 = mkM (N9 + 280) sc Rq w2 := mkM_cong (fun aq c1 c2 => hfr aq (by omega)) hM
  obtain ⟨s1, R1, b1, b2, b3⟩ := y_walker (so := so) (g := g2) (bq := N9 + 280) (w := w2) (sc := sc) (Rq := Rq) (Fq := Fq) (pq := (xs (iq + 1))) hR
  have b4 := y_thrown (so := so) (g := g2) (bq := N9 + 280) (sc := s1) (Rq := R1) (w := w2)
  rw [hf] at b1 b2 b3
  rw [b2] at b4
  rw [← hM2] at b3
  dsimp only at b3 b4
  have j7 : pwIsC w2 (N9 + 280) 7 = true := by rw [hM2]; exact mm_i
  have hb2 : w2 bq = .inl (4, L9, .inl xs) := by rw [hfr bq (by omega)]; exact hb
  obtain ⟨d0, d1, d2, d3, d4⟩ := lds hb2 hi hL
  have hO3 : mkM (N9 + 280) s1 R1 w2 (N9 + 290) = .inl (1, 1, .inr (.inl f2)) := by rw [mm_o (by omega)]; exact r4
  have hj := ldJ hO3
  refine ⟨F9, g2, mkM (N9 + 280) s1 R1 w2, some (.int (zN cd)), some (.int vq), ?_, r2, ?_⟩
  · exact LW_mk (cls_fr (fun aq c1 c2 => r3 aq (by omega)) a1) b1 ⟨f2, r4⟩ hb2 hbN (soW_f2 hs (fun aq ha => hfr aq (Or.inl ha)))
  · by_cases h0 : cd = 0
    · rw [r5 h0] at hj
      rw [h0] at r1 b4 ⊢
      simp (disch := omega) only [s_L_law_674, s_L_law_675, s_L_law_676, s_L_law_678, s_L_law_679, s_L_law_680, s_L_law_681, s_L_law_682, s_L_law_685, s_L_law_687, s_L_law_688, s_L_law_689, s_L_law_691, s_L_law_692, s_L_law_693, s_L_law_694, s_L_law_697, s_L_law_699, s_L_law_700, s_L_law_703, s_L_law_705, s_L_law_708, s_L_law_709, s_L_law_710, s_L_law_712, s_L_law_715, s_L_law_716, s_L_law_717, s_L_law_718, s_L_law_720, s_L_law_721, s_L_law_722, s_L_law_725, s_L_law_726, s_L_law_727, s_L_law_1725, s_L_law_1728, zN_neg1, nL0, nL1, nL2, nL3, nL4, nL5, nL6, nL7, nL8, nL9, nL10, nL11, nL12, nL13, nL14, nL20, nL21, nL22, nL23, nL25, nL32, nL33, nL39, nL40, nL43, nL44, nL99, nL100, nL120, nL216, nL217, nL218, nL219, nL220, nL221, nL500, nL999, nL1000, nL10000, nL100000, sh33, zN_lt, zN_le, zN_eq, zN_ge0, zN_lt0, zN_nm, zN_mn, zN_mlt, zN_ltm, zN_lem, zN_mle, zN_m1, zN_m2, zN_addm, zN_ofNat, zN_beq, zN_add, zN_sub, zN_mul, zN_rem, qT_lt, qF_lt, qT_le, qF_le, qT_eq, qF_eq, ↓reduceIte, and_true, true_and, false_and, and_false, not_true_eq_false, not_false_eq_true, decide_true, decide_false, Bool.true_or, Bool.or_true, Bool.false_or, Bool.or_false, cond_true, cond_false, qbi, qb1, qb0, qAv, cond_true, Option.bind_some, i6, j7, mm_i, e0, e1, e2, e3, e4, d0, d1, d2, d3, d4, r1, b3, b4, hj, lcE0]
    · simp (disch := omega) only [s_L_law_674, s_L_law_675, s_L_law_676, s_L_law_678, s_L_law_679, s_L_law_680, s_L_law_681, s_L_law_682, s_L_law_685, s_L_law_687, s_L_law_688, s_L_law_689, s_L_law_691, s_L_law_692, s_L_law_693, s_L_law_694, s_L_law_697, s_L_law_699, s_L_law_700, s_L_law_703, s_L_law_705, s_L_law_708, s_L_law_709, s_L_law_710, s_L_law_712, s_L_law_715, s_L_law_716, s_L_law_717, s_L_law_718, s_L_law_720, s_L_law_721, s_L_law_722, s_L_law_725, s_L_law_726, s_L_law_727, s_L_law_1725, s_L_law_1728, zN_neg1, nL0, nL1, nL2, nL3, nL4, nL5, nL6, nL7, nL8, nL9, nL10, nL11, nL12, nL13, nL14, nL20, nL21, nL22, nL23, nL25, nL32, nL33, nL39, nL40, nL43, nL44, nL99, nL100, nL120, nL216, nL217, nL218, nL219, nL220, nL221, nL500, nL999, nL1000, nL10000, nL100000, sh33, zN_lt, zN_le, zN_eq, zN_ge0, zN_lt0, zN_nm, zN_mn, zN_mlt, zN_ltm, zN_lem, zN_mle, zN_m1, zN_m2, zN_addm, zN_ofNat, zN_beq, zN_add, zN_sub, zN_mul, zN_rem, qT_lt, qF_lt, qT_le, qF_le, qT_eq, qF_eq, ↓reduceIte, and_true, true_and, false_and, and_false, not_true_eq_false, not_false_eq_true, decide_true, decide_false, Bool.true_or, Bool.or_true, Bool.false_or, Bool.or_false, cond_true, cond_false, qbi, qb1, qb0, qAv, cond_true, Option.bind_some, i6, j7, mm_i, e0, e1, e2, e3, e4, d0, d1, d2, d3, d4, r1, b3, b4, hj, h0]
theorem k_street (h : LW so bq L9 N9 xs Fq w) (hi : iq + 5 ≤ L9) (hL : L9 ≤ 2560) : ∃ (F9 : FS) (g9 : pwG) (w9 : pwW) (p5 p6 : Option Value), LW so bq L9 N9 xs F9 w9 ∧ (g9.2.2.1 ≤ g.2.2.1 + 1 ∧ g9.2.2.2 ≤ g.2.2.2 + 6) ∧ pwX so 243 730 [some (.ref bq), some (.ref N9), some (.ref (N9 + 280)), some (.ref (N9 + 290)), some (.int (zN iq)), o5, o6] [] g w = pwX so 243 23 [some (.ref bq), some (.ref N9), some (.ref (N9 + 280)), some (.ref (N9 + 290)), some (.int (zN (iq + 5))), p5, p6] [] g9 w9 := by
  obtain ⟨hC, ⟨sc, Rq, hM, hR⟩, ⟨fz, hO⟩, hb, hbN, hs⟩ := h
  obtain ⟨w1, a1, a2, a3⟩ := x_street (so := so) (g := g) (xx := N9) (w := w) (Fq := Fq) (pq := (xs (iq + 1))) (rq := (xs (iq + 2))) (tq := (xs (iq + 3))) (uq := (xs (iq + 4))) hC
  have i6 : pwIsC w N9 6 = true := ci_ hC.1
  have hO1 : w1 (N9 + 290) = .inl (1, 1, .inr (.inl fz)) := by rw [a2 _ (by omega)]; exact hO
  obtain ⟨e0, e1, e2, e3, e4⟩ := lds hb hi hL
  have hcd := cd_street (Fq := Fq) (pq := (xs (iq + 1))) (rq := (xs (iq + 2))) (tq := (xs (iq + 3))) (uq := (xs (iq + 4)))
  generalize hf : (fStreet Fq (xs (iq + 1)) (xs (iq + 2)) (xs (iq + 3)) (xs (iq + 4))) = rv at *
  obtain ⟨⟨cd, vq⟩, F9⟩ := rv
  dsimp only at a1 a3 hcd
  obtain ⟨g2, w2, f2, r1, r2, r3, r4, r5⟩ := lw_go (l_street i6 a3 hcd hO1) hO1
  have hfr : ∀ aq, aq < N9 ∨ (N9 + 280 ≤ aq ∧ aq ≠ N9 + 290) → w2 aq = w aq := fun aq ha => by rw [r3 aq (by omega)]; exact a2 aq (by omega)
  have hM2 : w2 = mkM (N9 + 280) sc Rq w2 := mkM_cong (fun aq c1 c2 => hfr aq (by omega)) hM
  obtain ⟨s1, R1, b1, b2, b3⟩ := y_street (so := so) (g := g2) (bq := N9 + 280) (w := w2) (sc := sc) (Rq := Rq) (Fq := Fq) (pq := (xs (iq + 1))) (rq := (xs (iq + 2))) (tq := (xs (iq + 3))) (uq := (xs (iq + 4))) hR
  have b4 := y_thrown (so := so) (g := g2) (bq := N9 + 280) (sc := s1) (Rq := R1) (w := w2)
  rw [hf] at b1 b2 b3
  rw [b2] at b4
  rw [← hM2] at b3
  dsimp only at b3 b4
  have j7 : pwIsC w2 (N9 + 280) 7 = true := by rw [hM2]; exact mm_i
  have hb2 : w2 bq = .inl (4, L9, .inl xs) := by rw [hfr bq (by omega)]; exact hb
  obtain ⟨d0, d1, d2, d3, d4⟩ := lds hb2 hi hL
  have hO3 : mkM (N9 + 280) s1 R1 w2 (N9 + 290) = .inl (1, 1, .inr (.inl f2)) := by rw [mm_o (by omega)]; exact r4
  have hj := ldJ hO3
  refine ⟨F9, g2, mkM (N9 + 280) s1 R1 w2, some (.int (zN cd)), some (.int vq), ?_, r2, ?_⟩
  · exact LW_mk (cls_fr (fun aq c1 c2 => r3 aq (by omega)) a1) b1 ⟨f2, r4⟩ hb2 hbN (soW_f2 hs (fun aq ha => hfr aq (Or.inl ha)))
  · by_cases h0 : cd = 0
    · rw [r5 h0] at hj
      rw [h0] at r1 b4 ⊢
      simp (disch := omega) only [s_L_law_730, s_L_law_731, s_L_law_732, s_L_law_734, s_L_law_735, s_L_law_736, s_L_law_737, s_L_law_738, s_L_law_740, s_L_law_741, s_L_law_742, s_L_law_743, s_L_law_744, s_L_law_746, s_L_law_747, s_L_law_748, s_L_law_749, s_L_law_750, s_L_law_752, s_L_law_753, s_L_law_754, s_L_law_755, s_L_law_756, s_L_law_759, s_L_law_761, s_L_law_762, s_L_law_763, s_L_law_765, s_L_law_766, s_L_law_767, s_L_law_768, s_L_law_769, s_L_law_771, s_L_law_772, s_L_law_773, s_L_law_774, s_L_law_775, s_L_law_777, s_L_law_778, s_L_law_779, s_L_law_780, s_L_law_781, s_L_law_783, s_L_law_784, s_L_law_785, s_L_law_786, s_L_law_789, s_L_law_791, s_L_law_792, s_L_law_795, s_L_law_797, s_L_law_800, s_L_law_801, s_L_law_802, s_L_law_804, s_L_law_807, s_L_law_808, s_L_law_809, s_L_law_810, s_L_law_812, s_L_law_813, s_L_law_814, s_L_law_817, s_L_law_818, s_L_law_819, s_L_law_1725, s_L_law_1728, zN_neg1, nL0, nL1, nL2, nL3, nL4, nL5, nL6, nL7, nL8, nL9, nL10, nL11, nL12, nL13, nL14, nL20, nL21, nL22, nL23, nL25, nL32, nL33, nL39, nL40, nL43, nL44, nL99, nL100, nL120, nL216, nL217, nL218, nL219, nL220, nL221, nL500, nL999, nL1000, nL10000, nL100000, sh33, zN_lt, zN_le, zN_eq, zN_ge0, zN_lt0, zN_nm, zN_mn, zN_mlt, zN_ltm, zN_lem, zN_mle, zN_m1, zN_m2, zN_addm, zN_ofNat, zN_beq, zN_add, zN_sub, zN_mul, zN_rem, qT_lt, qF_lt, qT_le, qF_le, qT_eq, qF_eq, ↓reduceIte, and_true, true_and, false_and, and_false, not_true_eq_false, not_false_eq_true, decide_true, decide_false, Bool.true_or, Bool.or_true, Bool.false_or, Bool.or_false, cond_true, cond_false, qbi, qb1, qb0, qAv, cond_true, Option.bind_some, i6, j7, mm_i, e0, e1, e2, e3, e4, d0, d1, d2, d3, d4, r1, b3, b4, hj, lcE0]
    · simp (disch := omega) only [s_L_law_730, s_L_law_731, s_L_law_732, s_L_law_734, s_L_law_735, s_L_law_736, s_L_law_737, s_L_law_738, s_L_law_740, s_L_law_741, s_L_law_742, s_L_law_743, s_L_law_744, s_L_law_746, s_L_law_747, s_L_law_748, s_L_law_749, s_L_law_750, s_L_law_752, s_L_law_753, s_L_law_754, s_L_law_755, s_L_law_756, s_L_law_759, s_L_law_761, s_L_law_762, s_L_law_763, s_L_law_765, s_L_law_766, s_L_law_767, s_L_law_768, s_L_law_769, s_L_law_771, s_L_law_772, s_L_law_773, s_L_law_774, s_L_law_775, s_L_law_777, s_L_law_778, s_L_law_779, s_L_law_780, s_L_law_781, s_L_law_783, s_L_law_784, s_L_law_785, s_L_law_786, s_L_law_789, s_L_law_791, s_L_law_792, s_L_law_795, s_L_law_797, s_L_law_800, s_L_law_801, s_L_law_802, s_L_law_804, s_L_law_807, s_L_law_808, s_L_law_809, s_L_law_810, s_L_law_812, s_L_law_813, s_L_law_814, s_L_law_817, s_L_law_818, s_L_law_819, s_L_law_1725, s_L_law_1728, zN_neg1, nL0, nL1, nL2, nL3, nL4, nL5, nL6, nL7, nL8, nL9, nL10, nL11, nL12, nL13, nL14, nL20, nL21, nL22, nL23, nL25, nL32, nL33, nL39, nL40, nL43, nL44, nL99, nL100, nL120, nL216, nL217, nL218, nL219, nL220, nL221, nL500, nL999, nL1000, nL10000, nL100000, sh33, zN_lt, zN_le, zN_eq, zN_ge0, zN_lt0, zN_nm, zN_mn, zN_mlt, zN_ltm, zN_lem, zN_mle, zN_m1, zN_m2, zN_addm, zN_ofNat, zN_beq, zN_add, zN_sub, zN_mul, zN_rem, qT_lt, qF_lt, qT_le, qF_le, qT_eq, qF_eq, ↓reduceIte, and_true, true_and, false_and, and_false, not_true_eq_false, not_false_eq_true, decide_true, decide_false, Bool.true_or, Bool.or_true, Bool.false_or, Bool.or_false, cond_true, cond_false, qbi, qb1, qb0, qAv, cond_true, Option.bind_some, i6, j7, mm_i, e0, e1, e2, e3, e4, d0, d1, d2, d3, d4, r1, b3, b4, hj, h0]
theorem k_shift (h : LW so bq L9 N9 xs Fq w) (hi : iq + 5 ≤ L9) (hL : L9 ≤ 2560) : ∃ (F9 : FS) (g9 : pwG) (w9 : pwW) (p5 p6 : Option Value), LW so bq L9 N9 xs F9 w9 ∧ (g9.2.2.1 ≤ g.2.2.1 + 1 ∧ g9.2.2.2 ≤ g.2.2.2 + 6) ∧ pwX so 243 822 [some (.ref bq), some (.ref N9), some (.ref (N9 + 280)), some (.ref (N9 + 290)), some (.int (zN iq)), o5, o6] [] g w = pwX so 243 23 [some (.ref bq), some (.ref N9), some (.ref (N9 + 280)), some (.ref (N9 + 290)), some (.int (zN (iq + 5))), p5, p6] [] g9 w9 := by
  obtain ⟨hC, ⟨sc, Rq, hM, hR⟩, ⟨fz, hO⟩, hb, hbN, hs⟩ := h
  obtain ⟨w1, a1, a2, a3⟩ := x_shift (so := so) (g := g) (xx := N9) (w := w) (Fq := Fq) (kq := (xs (iq + 1))) (pq := (xs (iq + 2))) hC
  have i6 : pwIsC w N9 6 = true := ci_ hC.1
  have hO1 : w1 (N9 + 290) = .inl (1, 1, .inr (.inl fz)) := by rw [a2 _ (by omega)]; exact hO
  obtain ⟨e0, e1, e2, e3, e4⟩ := lds hb hi hL
  have hcd := cd_shift (Fq := Fq) (kq := (xs (iq + 1))) (pq := (xs (iq + 2)))
  generalize hf : (fShift Fq (xs (iq + 1)) (xs (iq + 2))) = rv at *
  obtain ⟨⟨cd, vq⟩, F9⟩ := rv
  dsimp only at a1 a3 hcd
  obtain ⟨g2, w2, f2, r1, r2, r3, r4, r5⟩ := lw_go (l_shift i6 a3 hcd hO1) hO1
  have hfr : ∀ aq, aq < N9 ∨ (N9 + 280 ≤ aq ∧ aq ≠ N9 + 290) → w2 aq = w aq := fun aq ha => by rw [r3 aq (by omega)]; exact a2 aq (by omega)
  have hM2 : w2 = mkM (N9 + 280) sc Rq w2 := mkM_cong (fun aq c1 c2 => hfr aq (by omega)) hM
  obtain ⟨s1, R1, b1, b2, b3⟩ := y_shift (so := so) (g := g2) (bq := N9 + 280) (w := w2) (sc := sc) (Rq := Rq) (Fq := Fq) (kq := (xs (iq + 1))) (pq := (xs (iq + 2))) hR
  have b4 := y_thrown (so := so) (g := g2) (bq := N9 + 280) (sc := s1) (Rq := R1) (w := w2)
  rw [hf] at b1 b2 b3
  rw [b2] at b4
  rw [← hM2] at b3
  dsimp only at b3 b4
  have j7 : pwIsC w2 (N9 + 280) 7 = true := by rw [hM2]; exact mm_i
  have hb2 : w2 bq = .inl (4, L9, .inl xs) := by rw [hfr bq (by omega)]; exact hb
  obtain ⟨d0, d1, d2, d3, d4⟩ := lds hb2 hi hL
  have hO3 : mkM (N9 + 280) s1 R1 w2 (N9 + 290) = .inl (1, 1, .inr (.inl f2)) := by rw [mm_o (by omega)]; exact r4
  have hj := ldJ hO3
  refine ⟨F9, g2, mkM (N9 + 280) s1 R1 w2, some (.int (zN cd)), some (.int vq), ?_, r2, ?_⟩
  · exact LW_mk (cls_fr (fun aq c1 c2 => r3 aq (by omega)) a1) b1 ⟨f2, r4⟩ hb2 hbN (soW_f2 hs (fun aq ha => hfr aq (Or.inl ha)))
  · by_cases h0 : cd = 0
    · rw [r5 h0] at hj
      rw [h0] at r1 b4 ⊢
      simp (disch := omega) only [s_L_law_822, s_L_law_823, s_L_law_824, s_L_law_826, s_L_law_827, s_L_law_828, s_L_law_829, s_L_law_830, s_L_law_832, s_L_law_833, s_L_law_834, s_L_law_835, s_L_law_836, s_L_law_839, s_L_law_841, s_L_law_842, s_L_law_843, s_L_law_845, s_L_law_846, s_L_law_847, s_L_law_848, s_L_law_849, s_L_law_851, s_L_law_852, s_L_law_853, s_L_law_854, s_L_law_857, s_L_law_859, s_L_law_860, s_L_law_863, s_L_law_865, s_L_law_868, s_L_law_869, s_L_law_870, s_L_law_872, s_L_law_875, s_L_law_876, s_L_law_877, s_L_law_878, s_L_law_880, s_L_law_881, s_L_law_882, s_L_law_885, s_L_law_886, s_L_law_887, s_L_law_1725, s_L_law_1728, zN_neg1, nL0, nL1, nL2, nL3, nL4, nL5, nL6, nL7, nL8, nL9, nL10, nL11, nL12, nL13, nL14, nL20, nL21, nL22, nL23, nL25, nL32, nL33, nL39, nL40, nL43, nL44, nL99, nL100, nL120, nL216, nL217, nL218, nL219, nL220, nL221, nL500, nL999, nL1000, nL10000, nL100000, sh33, zN_lt, zN_le, zN_eq, zN_ge0, zN_lt0, zN_nm, zN_mn, zN_mlt, zN_ltm, zN_lem, zN_mle, zN_m1, zN_m2, zN_addm, zN_ofNat, zN_beq, zN_add, zN_sub, zN_mul, zN_rem, qT_lt, qF_lt, qT_le, qF_le, qT_eq, qF_eq, ↓reduceIte, and_true, true_and, false_and, and_false, not_true_eq_false, not_false_eq_true, decide_true, decide_false, Bool.true_or, Bool.or_true, Bool.false_or, Bool.or_false, cond_true, cond_false, qbi, qb1, qb0, qAv, cond_true, Option.bind_some, i6, j7, mm_i, e0, e1, e2, e3, e4, d0, d1, d2, d3, d4, r1, b3, b4, hj, lcE0]
    · simp (disch := omega) only [s_L_law_822, s_L_law_823, s_L_law_824, s_L_law_826, s_L_law_827, s_L_law_828, s_L_law_829, s_L_law_830, s_L_law_832, s_L_law_833, s_L_law_834, s_L_law_835, s_L_law_836, s_L_law_839, s_L_law_841, s_L_law_842, s_L_law_843, s_L_law_845, s_L_law_846, s_L_law_847, s_L_law_848, s_L_law_849, s_L_law_851, s_L_law_852, s_L_law_853, s_L_law_854, s_L_law_857, s_L_law_859, s_L_law_860, s_L_law_863, s_L_law_865, s_L_law_868, s_L_law_869, s_L_law_870, s_L_law_872, s_L_law_875, s_L_law_876, s_L_law_877, s_L_law_878, s_L_law_880, s_L_law_881, s_L_law_882, s_L_law_885, s_L_law_886, s_L_law_887, s_L_law_1725, s_L_law_1728, zN_neg1, nL0, nL1, nL2, nL3, nL4, nL5, nL6, nL7, nL8, nL9, nL10, nL11, nL12, nL13, nL14, nL20, nL21, nL22, nL23, nL25, nL32, nL33, nL39, nL40, nL43, nL44, nL99, nL100, nL120, nL216, nL217, nL218, nL219, nL220, nL221, nL500, nL999, nL1000, nL10000, nL100000, sh33, zN_lt, zN_le, zN_eq, zN_ge0, zN_lt0, zN_nm, zN_mn, zN_mlt, zN_ltm, zN_lem, zN_mle, zN_m1, zN_m2, zN_addm, zN_ofNat, zN_beq, zN_add, zN_sub, zN_mul, zN_rem, qT_lt, qF_lt, qT_le, qF_le, qT_eq, qF_eq, ↓reduceIte, and_true, true_and, false_and, and_false, not_true_eq_false, not_false_eq_true, decide_true, decide_false, Bool.true_or, Bool.or_true, Bool.false_or, Bool.or_false, cond_true, cond_false, qbi, qb1, qb0, qAv, cond_true, Option.bind_some, i6, j7, mm_i, e0, e1, e2, e3, e4, d0, d1, d2, d3, d4, r1, b3, b4, hj, h0]
theorem k_letter (h : LW so bq L9 N9 xs Fq w) (hi : iq + 5 ≤ L9) (hL : L9 ≤ 2560) : ∃ (F9 : FS) (g9 : pwG) (w9 : pwW) (p5 p6 : Option Value), LW so bq L9 N9 xs F9 w9 ∧ (g9.2.2.1 ≤ g.2.2.1 + 1 ∧ g9.2.2.2 ≤ g.2.2.2 + 6) ∧ pwX so 243 890 [some (.ref bq), some (.ref N9), some (.ref (N9 + 280)), some (.ref (N9 + 290)), some (.int (zN iq)), o5, o6] [] g w = pwX so 243 23 [some (.ref bq), some (.ref N9), some (.ref (N9 + 280)), some (.ref (N9 + 290)), some (.int (zN (iq + 5))), p5, p6] [] g9 w9 := by
  obtain ⟨hC, ⟨sc, Rq, hM, hR⟩, ⟨fz, hO⟩, hb, hbN, hs⟩ := h
  obtain ⟨w1, a1, a2, a3⟩ := x_letter (so := so) (g := g) (xx := N9) (w := w) (Fq := Fq) (kq := (xs (iq + 1))) (pq := (xs (iq + 2))) hC
  have i6 : pwIsC w N9 6 = true := ci_ hC.1
  have hO1 : w1 (N9 + 290) = .inl (1, 1, .inr (.inl fz)) := by rw [a2 _ (by omega)]; exact hO
  obtain ⟨e0, e1, e2, e3, e4⟩ := lds hb hi hL
  have hcd := cd_letter (Fq := Fq) (kq := (xs (iq + 1))) (pq := (xs (iq + 2)))
  generalize hf : (fLetter Fq (xs (iq + 1)) (xs (iq + 2))) = rv at *
  obtain ⟨⟨cd, vq⟩, F9⟩ := rv
  dsimp only at a1 a3 hcd
  obtain ⟨g2, w2, f2, r1, r2, r3, r4, r5⟩ := lw_go (l_letter i6 a3 hcd hO1) hO1
  have hfr : ∀ aq, aq < N9 ∨ (N9 + 280 ≤ aq ∧ aq ≠ N9 + 290) → w2 aq = w aq := fun aq ha => by rw [r3 aq (by omega)]; exact a2 aq (by omega)
  have hM2 : w2 = mkM (N9 + 280) sc Rq w2 := mkM_cong (fun aq c1 c2 => hfr aq (by omega)) hM
  obtain ⟨s1, R1, b1, b2, b3⟩ := y_letter (so := so) (g := g2) (bq := N9 + 280) (w := w2) (sc := sc) (Rq := Rq) (Fq := Fq) (kq := (xs (iq + 1))) (pq := (xs (iq + 2))) hR
  have b4 := y_thrown (so := so) (g := g2) (bq := N9 + 280) (sc := s1) (Rq := R1) (w := w2)
  rw [hf] at b1 b2 b3
  rw [b2] at b4
  rw [← hM2] at b3
  dsimp only at b3 b4
  have j7 : pwIsC w2 (N9 + 280) 7 = true := by rw [hM2]; exact mm_i
  have hb2 : w2 bq = .inl (4, L9, .inl xs) := by rw [hfr bq (by omega)]; exact hb
  obtain ⟨d0, d1, d2, d3, d4⟩ := lds hb2 hi hL
  have hO3 : mkM (N9 + 280) s1 R1 w2 (N9 + 290) = .inl (1, 1, .inr (.inl f2)) := by rw [mm_o (by omega)]; exact r4
  have hj := ldJ hO3
  refine ⟨F9, g2, mkM (N9 + 280) s1 R1 w2, some (.int (zN cd)), some (.int vq), ?_, r2, ?_⟩
  · exact LW_mk (cls_fr (fun aq c1 c2 => r3 aq (by omega)) a1) b1 ⟨f2, r4⟩ hb2 hbN (soW_f2 hs (fun aq ha => hfr aq (Or.inl ha)))
  · by_cases h0 : cd = 0
    · rw [r5 h0] at hj
      rw [h0] at r1 b4 ⊢
      simp (disch := omega) only [s_L_law_890, s_L_law_891, s_L_law_892, s_L_law_894, s_L_law_895, s_L_law_896, s_L_law_897, s_L_law_898, s_L_law_900, s_L_law_901, s_L_law_902, s_L_law_903, s_L_law_904, s_L_law_907, s_L_law_909, s_L_law_910, s_L_law_911, s_L_law_913, s_L_law_914, s_L_law_915, s_L_law_916, s_L_law_917, s_L_law_919, s_L_law_920, s_L_law_921, s_L_law_922, s_L_law_925, s_L_law_927, s_L_law_928, s_L_law_931, s_L_law_933, s_L_law_936, s_L_law_937, s_L_law_938, s_L_law_940, s_L_law_943, s_L_law_944, s_L_law_945, s_L_law_946, s_L_law_948, s_L_law_949, s_L_law_950, s_L_law_953, s_L_law_954, s_L_law_955, s_L_law_1725, s_L_law_1728, zN_neg1, nL0, nL1, nL2, nL3, nL4, nL5, nL6, nL7, nL8, nL9, nL10, nL11, nL12, nL13, nL14, nL20, nL21, nL22, nL23, nL25, nL32, nL33, nL39, nL40, nL43, nL44, nL99, nL100, nL120, nL216, nL217, nL218, nL219, nL220, nL221, nL500, nL999, nL1000, nL10000, nL100000, sh33, zN_lt, zN_le, zN_eq, zN_ge0, zN_lt0, zN_nm, zN_mn, zN_mlt, zN_ltm, zN_lem, zN_mle, zN_m1, zN_m2, zN_addm, zN_ofNat, zN_beq, zN_add, zN_sub, zN_mul, zN_rem, qT_lt, qF_lt, qT_le, qF_le, qT_eq, qF_eq, ↓reduceIte, and_true, true_and, false_and, and_false, not_true_eq_false, not_false_eq_true, decide_true, decide_false, Bool.true_or, Bool.or_true, Bool.false_or, Bool.or_false, cond_true, cond_false, qbi, qb1, qb0, qAv, cond_true, Option.bind_some, i6, j7, mm_i, e0, e1, e2, e3, e4, d0, d1, d2, d3, d4, r1, b3, b4, hj, lcE0]
    · simp (disch := omega) only [s_L_law_890, s_L_law_891, s_L_law_892, s_L_law_894, s_L_law_895, s_L_law_896, s_L_law_897, s_L_law_898, s_L_law_900, s_L_law_901, s_L_law_902, s_L_law_903, s_L_law_904, s_L_law_907, s_L_law_909, s_L_law_910, s_L_law_911, s_L_law_913, s_L_law_914, s_L_law_915, s_L_law_916, s_L_law_917, s_L_law_919, s_L_law_920, s_L_law_921, s_L_law_922, s_L_law_925, s_L_law_927, s_L_law_928, s_L_law_931, s_L_law_933, s_L_law_936, s_L_law_937, s_L_law_938, s_L_law_940, s_L_law_943, s_L_law_944, s_L_law_945, s_L_law_946, s_L_law_948, s_L_law_949, s_L_law_950, s_L_law_953, s_L_law_954, s_L_law_955, s_L_law_1725, s_L_law_1728, zN_neg1, nL0, nL1, nL2, nL3, nL4, nL5, nL6, nL7, nL8, nL9, nL10, nL11, nL12, nL13, nL14, nL20, nL21, nL22, nL23, nL25, nL32, nL33, nL39, nL40, nL43, nL44, nL99, nL100, nL120, nL216, nL217, nL218, nL219, nL220, nL221, nL500, nL999, nL1000, nL10000, nL100000, sh33, zN_lt, zN_le, zN_eq, zN_ge0, zN_lt0, zN_nm, zN_mn, zN_mlt, zN_ltm, zN_lem, zN_mle, zN_m1, zN_m2, zN_addm, zN_ofNat, zN_beq, zN_add, zN_sub, zN_mul, zN_rem, qT_lt, qF_lt, qT_le, qF_le, qT_eq, qF_eq, ↓reduceIte, and_true, true_and, false_and, and_false, not_true_eq_false, not_false_eq_true, decide_true, decide_false, Bool.true_or, Bool.or_true, Bool.false_or, Bool.or_false, cond_true, cond_false, qbi, qb1, qb0, qAv, cond_true, Option.bind_some, i6, j7, mm_i, e0, e1, e2, e3, e4, d0, d1, d2, d3, d4, r1, b3, b4, hj, h0]
end QA

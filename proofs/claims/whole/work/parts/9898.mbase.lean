/-! the pure part: the model between its calls -/
def modR (sc : Nat → Int32) (Rq : Nat → Nat → Int32) (Fq : FS) : Prop :=
  (invT Fq.2.1 ∧ repM Fq.2.1 (Rq 1)) ∧
  (sc 5 = zN Fq.2.2.1.length ∧ Fq.2.2.1.length ≤ 14 ∧ ∀ iq Aq, Fq.2.2.1[iq]? = some Aq → invT Aq ∧ repM Aq (fun jq => Rq 4 (221 * iq + jq))) ∧
  (∀ iq, iq < 2 → (Fq.2.2.2 iq = none → Rq 6 iq = zN 0) ∧ ∀ Aq, Fq.2.2.2 iq = some Aq → Rq 6 iq = zN 1 ∧ invT Aq ∧ repM Aq (fun jq => Rq 5 (221 * iq + jq))) ∧
  (sc 11 = zN Fq.1.length ∧ Fq.1.length ≤ 120 ∧ (∀ cq ∈ Fq.1, cq ≤ 255) ∧ lsM 0 Fq.1 (Rq 9))
section QA
variable {so : Nat → Nat} {g : pwG} {bq : Nat} {w : pwW} {Fq : FS} {pq kq rq tq uq : Int32} {Aq Bq : TA} {sc s1 : Nat → Int32} {Rq R1 : Nat → Nat → Int32} {fq : Nat → Int32} {k9 o9 : Nat}
theorem modR_c (h : modR sc Rq Fq) (h5 : s1 5 = sc 5) (h11 : s1 11 = sc 11) (hr : ∀ jq, jq = 1 ∨ jq = 4 ∨ jq = 5 ∨ jq = 6 ∨ jq = 9 → R1 jq = Rq jq) : modR s1 R1 Fq := by
  unfold modR
  rw [hr 1 (by omega), hr 4 (by omega), hr 5 (by omega), hr 6 (by omega), hr 9 (by omega), h5, h11]
  exact h
theorem modR_0 (h : modR sc Rq Fq) : modR (upd sc 0 pq) Rq Fq := modR_c h rfl rfl (fun _ _ => rfl)
theorem modR_now (h : modR sc Rq Fq) (hI : invT Aq) (hz : repM Aq fq) : modR sc (va_up Rq 1 fq) (Fq.1, Aq, Fq.2.2) := by
  obtain ⟨a1, a2, a3, a4⟩ := h
  unfold modR
  rw [va_up_self, va_up_ne _ _ (show (4 : Nat) ≠ 1 by decide), va_up_ne _ _ (show (5 : Nat) ≠ 1 by decide), va_up_ne _ _ (show (6 : Nat) ≠ 1 by decide), va_up_ne _ _ (show (9 : Nat) ≠ 1 by decide)]
  exact ⟨⟨hI, hz⟩, a2, a3, a4⟩
theorem modR_w {jz : Nat} (h : modR sc Rq Fq) (hj : jz = 2 ∨ jz = 3 ∨ jz = 7 ∨ jz = 8) : modR sc (va_up Rq jz fq) Fq :=
  modR_c h rfl rfl (fun jq hq => va_up_ne _ _ (by omega))
theorem y_ex {kz : Nat} {vz : Int32} {xz : Option pwO} (hR : modR sc Rq Fq) (h : xz = some (.inl (some (.int (vz))), g, (mkM bq (upd sc 0 (zN kz)) Rq w))) : ∃ s1 R1, modR s1 R1 Fq ∧ s1 0 = zN kz ∧ xz = some (.inl (some (.int (vz))), g, (mkM bq s1 R1 w)) := ⟨_, Rq, modR_0 hR, rfl, h⟩
theorem in_T {xq yq zq : Int64} (h : yq.toInt ≤ xq.toInt ∧ xq.toInt ≤ zq.toInt) : pwX so 133 0 [some (.long xq), none, some (.long yq), none, some (.long zq), none] [] g w = some (.inl (some (.int (zN 1))), g, w) := by rw [n_in, if_pos h]
theorem in_F {xq yq zq : Int64} (h : ¬ (yq.toInt ≤ xq.toInt ∧ xq.toInt ≤ zq.toInt)) : pwX so 133 0 [some (.long xq), none, some (.long yq), none, some (.long zq), none] [] g w = some (.inl (some (.int (zN 0))), g, w) := by rw [n_in, if_neg h]
/-- the row methods on the object -/
theorem o_isW {jr : Nat} (h1 : 1 ≤ jr) (h3 : jr ≤ 3) (hI : invT Aq) (hz : repM Aq (Rq jr)) : pwX so 137 0 [some (.ref (bq + jr)), some (.int pq)] [] g (mkM bq sc Rq w) = some (.inl (some (.int (if isWd Aq pq then zN 1 else zN 0))), g, (mkM bq sc Rq w)) := by
  have h4 := hI.1
  have b1 := n_isWalker (so := so) (g := g) (aq := bq + jr) (fq := Rq jr) (w := mkM bq sc Rq w) (pq := pq) hz.1.1 (by omega)
  rw [mr_in h1 h3] at b1
  rw [b1]
  by_cases h : isWd Aq pq
  · rw [if_pos h, if_pos (by have := h.1; have := h.2; omega)]
  · rw [if_neg h, if_neg (fun hh => h ⟨hh.1, by omega⟩)]
theorem o_isS {jr : Nat} (h1 : 1 ≤ jr) (h3 : jr ≤ 3) (hI : invT Aq) (hz : repM Aq (Rq jr)) : pwX so 138 0 [some (.ref (bq + jr)), some (.int pq)] [] g (mkM bq sc Rq w) = some (.inl (some (.int (if isSd Aq pq then zN 1 else zN 0))), g, (mkM bq sc Rq w)) := by
  have h4 := hI.1
  have b1 := n_isStreet (so := so) (g := g) (aq := bq + jr) (fq := Rq jr) (w := mkM bq sc Rq w) (pq := pq) hz.1.2.1 (by omega)
  rw [mr_in h1 h3] at b1
  rw [b1]
  by_cases h : isSd Aq pq
  · rw [if_pos h, if_pos (by have := h.1; have := h.2; omega)]
  · rw [if_neg h, if_neg (fun hh => h ⟨hh.1, by omega⟩)]
theorem y_thrown : pwX so 131 0 [some (.ref bq)] [] g (mkM bq sc Rq w) = some (.inl (some (.int (sc 0))), g, (mkM bq sc Rq w)) := by
  simp (disch := omega) only [s_X8_thrown_0, s_X8_thrown_1, s_X8_thrown_4, ↓mg0, ↓mg1, ↓mg2, ↓mg3, ↓mg4, ↓mg5, ↓mg6, ↓mg7, ↓mg8, ↓mg9, ↓mg10, ↓mg11, ↓mg12, ↓mg13, ↓mg14, ↓mp0, ↓mp5, ↓mp11, ↓mp12, ↓mp13, ↓mp14, ↓ml1, ↓ml2, ↓ml3, ↓ml4, ↓ml5, ↓ml7, ↓ml8, ↓ml9, ↓mlr, ↓mt1, ↓mt2, ↓mt3, ↓mt4, ↓mt5, ↓mt7, ↓mt8, ↓mt9, ↓mlz, ↓mtz, mm_i, cond_true, cond_false, qAv, qAn, qV_vv, qV_s, qV_n, qU_s, qU_n, zN_neg1, nL0, nL1, nL2, nL3, nL4, nL5, nL6, nL7, nL8, nL9, nL10, nL11, nL12, nL13, nL14, nL20, nL21, nL22, nL23, nL25, nL32, nL33, nL39, nL40, nL43, nL44, nL99, nL100, nL120, nL216, nL217, nL218, nL219, nL220, nL221, nL500, nL999, nL1000, nL10000, nL100000, sh33, zN_lt, zN_le, zN_eq, zN_ge0, zN_lt0, zN_nm, zN_mn, zN_mlt, zN_ltm, zN_lem, zN_mle, zN_m1, zN_m2, zN_addm, zN_ofNat, zN_beq, zN_add, zN_sub, zN_mul, zN_rem, qT_lt, qF_lt, qT_le, qF_le, qT_eq, qF_eq, ↓reduceIte, and_true, true_and, false_and, and_false, not_true_eq_false, not_false_eq_true, decide_true, decide_false, Bool.true_or, Bool.or_true, Bool.false_or, Bool.or_false, cond_true, cond_false, Option.bind_some]
theorem y_about (hR : modR sc Rq Fq) : ∃ s1 R1, modR s1 R1 Fq ∧ s1 0 = zN (fAbout Fq pq).1 ∧ pwX so 187 0 [some (.ref bq), some (.int pq)] [] g (mkM bq sc Rq w) = some (.inl (some (.int ((fAbout Fq pq).2))), g, (mkM bq s1 R1 w)) := by
  unfold fAbout
  by_cases h1 : 0 ≤ pq.toInt ∧ pq.toInt ≤ 12
  · rw [if_pos h1]
    obtain ⟨n9, rfl, e4, e5, e6⟩ := un_ex h1.1
    rw [e6]
    obtain ⟨f7, f8, b1⟩ := n_told (so := so) (g := g) (bq := bq) (sc := upd sc 0 (zN 0)) (Rq := Rq) (w := w) (jr := 1) (wq := n9) (by decide) (by decide) hR.1.1 hR.1.2 (by omega)
    refine ⟨upd sc 0 (zN 0), va_up (va_up Rq 7 f7) 8 f8, modR_w (modR_w (modR_0 hR) (Or.inr (Or.inr (Or.inl rfl)))) (Or.inr (Or.inr (Or.inr rfl))), rfl, ?_⟩
    dsimp only
    simp (disch := omega) only [s_X8_about_0, s_X8_about_1, s_X8_about_2, s_X8_about_3, s_X8_about_4, s_X8_about_7, s_X8_about_10, s_X8_about_13, s_X8_about_14, s_X8_about_17, s_X8_about_18, s_X8_about_21, s_X8_about_24, s_X8_about_25, s_X8_about_26, s_X8_about_27, s_X8_about_28, s_X8_about_31, s_X8_about_32, s_X8_about_35, s_X8_refused_0, s_X8_refused_1, s_X8_refused_2, s_X8_refused_5, s_X8_refused_6, s_X8_refused_9, s_X8_refused_10, s_X8_refused_13, s_X8_refused_14, ↓mg0, ↓mg1, ↓mg2, ↓mg3, ↓mg4, ↓mg5, ↓mg6, ↓mg7, ↓mg8, ↓mg9, ↓mg10, ↓mg11, ↓mg12, ↓mg13, ↓mg14, ↓mp0, ↓mp5, ↓mp11, ↓mp12, ↓mp13, ↓mp14, ↓ml1, ↓ml2, ↓ml3, ↓ml4, ↓ml5, ↓ml7, ↓ml8, ↓ml9, ↓mlr, ↓mt1, ↓mt2, ↓mt3, ↓mt4, ↓mt5, ↓mt7, ↓mt8, ↓mt9, ↓mlz, ↓mtz, mm_i, cond_true, cond_false, qAv, qAn, qV_vv, qV_s, qV_n, qU_s, qU_n, zN_neg1, nL0, nL1, nL2, nL3, nL4, nL5, nL6, nL7, nL8, nL9, nL10, nL11, nL12, nL13, nL14, nL20, nL21, nL22, nL23, nL25, nL32, nL33, nL39, nL40, nL43, nL44, nL99, nL100, nL120, nL216, nL217, nL218, nL219, nL220, nL221, nL500, nL999, nL1000, nL10000, nL100000, sh33, zN_lt, zN_le, zN_eq, zN_ge0, zN_lt0, zN_nm, zN_mn, zN_mlt, zN_ltm, zN_lem, zN_mle, zN_m1, zN_m2, zN_addm, zN_ofNat, zN_beq, zN_add, zN_sub, zN_mul, zN_rem, qT_lt, qF_lt, qT_le, qF_le, qT_eq, qF_eq, ↓reduceIte, and_true, true_and, false_and, and_false, not_true_eq_false, not_false_eq_true, decide_true, decide_false, Bool.true_or, Bool.or_true, Bool.false_or, Bool.or_false, cond_true, cond_false, qbi, qb1, qb0, n_in, i2l, jL0, jL12, h1, b1, Option.bind_some]
  · rw [if_neg h1]
    dsimp only
    refine y_ex hR ?_
    simp (disch := omega) only [s_X8_about_0, s_X8_about_1, s_X8_about_2, s_X8_about_3, s_X8_about_4, s_X8_about_7, s_X8_about_10, s_X8_about_13, s_X8_about_14, s_X8_about_17, s_X8_about_18, s_X8_about_21, s_X8_about_24, s_X8_about_25, s_X8_about_26, s_X8_about_27, s_X8_about_28, s_X8_about_31, s_X8_about_32, s_X8_about_35, s_X8_refused_0, s_X8_refused_1, s_X8_refused_2, s_X8_refused_5, s_X8_refused_6, s_X8_refused_9, s_X8_refused_10, s_X8_refused_13, s_X8_refused_14, ↓mg0, ↓mg1, ↓mg2, ↓mg3, ↓mg4, ↓mg5, ↓mg6, ↓mg7, ↓mg8, ↓mg9, ↓mg10, ↓mg11, ↓mg12, ↓mg13, ↓mg14, ↓mp0, ↓mp5, ↓mp11, ↓mp12, ↓mp13, ↓mp14, ↓ml1, ↓ml2, ↓ml3, ↓ml4, ↓ml5, ↓ml7, ↓ml8, ↓ml9, ↓mlr, ↓mt1, ↓mt2, ↓mt3, ↓mt4, ↓mt5, ↓mt7, ↓mt8, ↓mt9, ↓mlz, ↓mtz, mm_i, cond_true, cond_false, qAv, qAn, qV_vv, qV_s, qV_n, qU_s, qU_n, zN_neg1, nL0, nL1, nL2, nL3, nL4, nL5, nL6, nL7, nL8, nL9, nL10, nL11, nL12, nL13, nL14, nL20, nL21, nL22, nL23, nL25, nL32, nL33, nL39, nL40, nL43, nL44, nL99, nL100, nL120, nL216, nL217, nL218, nL219, nL220, nL221, nL500, nL999, nL1000, nL10000, nL100000, sh33, zN_lt, zN_le, zN_eq, zN_ge0, zN_lt0, zN_nm, zN_mn, zN_mlt, zN_ltm, zN_lem, zN_mle, zN_m1, zN_m2, zN_addm, zN_ofNat, zN_beq, zN_add, zN_sub, zN_mul, zN_rem, qT_lt, qF_lt, qT_le, qF_le, qT_eq, qF_eq, ↓reduceIte, and_true, true_and, false_and, and_false, not_true_eq_false, not_false_eq_true, decide_true, decide_false, Bool.true_or, Bool.or_true, Bool.false_or, Bool.or_false, cond_true, cond_false, qbi, qb1, qb0, n_in, i2l, jL0, jL12, h1, Option.bind_some]
theorem y_file (hR : modR sc Rq Fq) : ∃ s1 R1, modR s1 R1 Fq ∧ s1 0 = zN (fFile Fq kq).1 ∧ pwX so 193 0 [some (.ref bq), some (.int kq)] [] g (mkM bq sc Rq w) = some (.inl (some (.int ((fFile Fq kq).2))), g, (mkM bq s1 R1 w)) := by
  have hI := hR.1.1
  have hz := hR.1.2
  have h4 := hI.1
  have e0 : Rq 1 0 = zN (tN Fq.2.1 1) := hz.1.1
  unfold fFile
  by_cases h1 : isWd Fq.2.1 kq
  · rw [if_pos h1]
    obtain ⟨n9, rfl, e4, e5, e6⟩ := un_ex h1.1
    rw [e6]
    have hn : n9 < tN Fq.2.1 1 := by have := h1.2; omega
    have b2 : ∀ {w1 : pwW}, pwX so 133 0 [some (.long ((zN n9).toInt64)), none, some (.long 0), none, some (.long ((zN (tN Fq.2.1 1) - zN 1).toInt64)), none] [] g w1 = some (.inl (some (.int (zN 1))), g, w1) := in_T (by rw [i2l, i2l, jL0, zN_pred (by omega), zN_toInt (by omega)]; omega)
    rw [zN_sub (by omega)] at b2
    obtain ⟨f7, c1, b1⟩ := n_layFile (so := so) (g := g) (bq := bq) (sc := upd sc 0 (zN 0)) (Rq := Rq) (w := w) (jr := 1) (by decide) (by decide) hI hz
    refine ⟨upd sc 0 (zN 0), va_up Rq 7 f7, modR_w (modR_0 hR) (Or.inr (Or.inr (Or.inl rfl))), rfl, ?_⟩
    dsimp only
    have c2 := c1 n9 hn
    simp (disch := omega) only [s_X8_file_0, s_X8_file_1, s_X8_file_2, s_X8_file_3, s_X8_file_4, s_X8_file_5, s_X8_file_8, s_X8_file_9, s_X8_file_10, s_X8_file_11, s_X8_file_12, s_X8_file_13, s_X8_file_16, s_X8_file_19, s_X8_file_20, s_X8_file_23, s_X8_file_24, s_X8_file_27, s_X8_file_30, s_X8_file_31, s_X8_file_32, s_X8_file_33, s_X8_file_34, s_X8_file_37, s_X8_file_40, s_X8_file_41, s_X8_file_44, s_X8_file_45, s_X8_file_46, s_X8_refused_0, s_X8_refused_1, s_X8_refused_2, s_X8_refused_5, s_X8_refused_6, s_X8_refused_9, s_X8_refused_10, s_X8_refused_13, s_X8_refused_14, ↓mg0, ↓mg1, ↓mg2, ↓mg3, ↓mg4, ↓mg5, ↓mg6, ↓mg7, ↓mg8, ↓mg9, ↓mg10, ↓mg11, ↓mg12, ↓mg13, ↓mg14, ↓mp0, ↓mp5, ↓mp11, ↓mp12, ↓mp13, ↓mp14, ↓ml1, ↓ml2, ↓ml3, ↓ml4, ↓ml5, ↓ml7, ↓ml8, ↓ml9, ↓mlr, ↓mt1, ↓mt2, ↓mt3, ↓mt4, ↓mt5, ↓mt7, ↓mt8, ↓mt9, ↓mlz, ↓mtz, mm_i, cond_true, cond_false, qAv, qAn, qV_vv, qV_s, qV_n, qU_s, qU_n, zN_neg1, nL0, nL1, nL2, nL3, nL4, nL5, nL6, nL7, nL8, nL9, nL10, nL11, nL12, nL13, nL14, nL20, nL21, nL22, nL23, nL25, nL32, nL33, nL39, nL40, nL43, nL44, nL99, nL100, nL120, nL216, nL217, nL218, nL219, nL220, nL221, nL500, nL999, nL1000, nL10000, nL100000, sh33, zN_lt, zN_le, zN_eq, zN_ge0, zN_lt0, zN_nm, zN_mn, zN_mlt, zN_ltm, zN_lem, zN_mle, zN_m1, zN_m2, zN_addm, zN_ofNat, zN_beq, zN_add, zN_sub, zN_mul, zN_rem, qT_lt, qF_lt, qT_le, qF_le, qT_eq, qF_eq, ↓reduceIte, and_true, true_and, false_and, and_false, not_true_eq_false, not_false_eq_true, decide_true, decide_false, Bool.true_or, Bool.or_true, Bool.false_or, Bool.or_false, cond_true, cond_false, qbi, qb1, qb0, e0, b2, b1, c2, Option.bind_some]
  · rw [if_neg h1]
    have b2 : ∀ {w1 : pwW}, pwX so 133 0 [some (.long (kq.toInt64)), none, some (.long 0), none, some (.long ((zN (tN Fq.2.1 1) - zN 1).toInt64)), none] [] g w1 = some (.inl (some (.int (zN 0))), g, w1) := in_F (by rw [i2l, i2l, jL0, zN_pred (by omega)]; intro hh; exact h1 ⟨hh.1, by omega⟩)
    dsimp only
    refine y_ex hR ?_
    by_cases h0 : 1 ≤ tN Fq.2.1 1
    · rw [zN_sub h0] at b2
      simp (disch := omega) only [s_X8_file_0, s_X8_file_1, s_X8_file_2, s_X8_file_3, s_X8_file_4, s_X8_file_5, s_X8_file_8, s_X8_file_9, s_X8_file_10, s_X8_file_11, s_X8_file_12, s_X8_file_13, s_X8_file_16, s_X8_file_19, s_X8_file_20, s_X8_file_23, s_X8_file_24, s_X8_file_27, s_X8_file_30, s_X8_file_31, s_X8_file_32, s_X8_file_33, s_X8_file_34, s_X8_file_37, s_X8_file_40, s_X8_file_41, s_X8_file_44, s_X8_file_45, s_X8_file_46, s_X8_refused_0, s_X8_refused_1, s_X8_refused_2, s_X8_refused_5, s_X8_refused_6, s_X8_refused_9, s_X8_refused_10, s_X8_refused_13, s_X8_refused_14, ↓mg0, ↓mg1, ↓mg2, ↓mg3, ↓mg4, ↓mg5, ↓mg6, ↓mg7, ↓mg8, ↓mg9, ↓mg10, ↓mg11, ↓mg12, ↓mg13, ↓mg14, ↓mp0, ↓mp5, ↓mp11, ↓mp12, ↓mp13, ↓mp14, ↓ml1, ↓ml2, ↓ml3, ↓ml4, ↓ml5, ↓ml7, ↓ml8, ↓ml9, ↓mlr, ↓mt1, ↓mt2, ↓mt3, ↓mt4, ↓mt5, ↓mt7, ↓mt8, ↓mt9, ↓mlz, ↓mtz, mm_i, cond_true, cond_false, qAv, qAn, qV_vv, qV_s, qV_n, qU_s, qU_n, zN_neg1, nL0, nL1, nL2, nL3, nL4, nL5, nL6, nL7, nL8, nL9, nL10, nL11, nL12, nL13, nL14, nL20, nL21, nL22, nL23, nL25, nL32, nL33, nL39, nL40, nL43, nL44, nL99, nL100, nL120, nL216, nL217, nL218, nL219, nL220, nL221, nL500, nL999, nL1000, nL10000, nL100000, sh33, zN_lt, zN_le, zN_eq, zN_ge0, zN_lt0, zN_nm, zN_mn, zN_mlt, zN_ltm, zN_lem, zN_mle, zN_m1, zN_m2, zN_addm, zN_ofNat, zN_beq, zN_add, zN_sub, zN_mul, zN_rem, qT_lt, qF_lt, qT_le, qF_le, qT_eq, qF_eq, ↓reduceIte, and_true, true_and, false_and, and_false, not_true_eq_false, not_false_eq_true, decide_true, decide_false, Bool.true_or, Bool.or_true, Bool.false_or, Bool.or_false, cond_true, cond_false, qbi, qb1, qb0, e0, b2, Option.bind_some]
    · have h0 : tN Fq.2.1 1 = 0 := by omega
      rw [h0] at b2 e0
      simp (disch := omega) only [s_X8_file_0, s_X8_file_1, s_X8_file_2, s_X8_file_3, s_X8_file_4, s_X8_file_5, s_X8_file_8, s_X8_file_9, s_X8_file_10, s_X8_file_11, s_X8_file_12, s_X8_file_13, s_X8_file_16, s_X8_file_19, s_X8_file_20, s_X8_file_23, s_X8_file_24, s_X8_file_27, s_X8_file_30, s_X8_file_31, s_X8_file_32, s_X8_file_33, s_X8_file_34, s_X8_file_37, s_X8_file_40, s_X8_file_41, s_X8_file_44, s_X8_file_45, s_X8_file_46, s_X8_refused_0, s_X8_refused_1, s_X8_refused_2, s_X8_refused_5, s_X8_refused_6, s_X8_refused_9, s_X8_refused_10, s_X8_refused_13, s_X8_refused_14, ↓mg0, ↓mg1, ↓mg2, ↓mg3, ↓mg4, ↓mg5, ↓mg6, ↓mg7, ↓mg8, ↓mg9, ↓mg10, ↓mg11, ↓mg12, ↓mg13, ↓mg14, ↓mp0, ↓mp5, ↓mp11, ↓mp12, ↓mp13, ↓mp14, ↓ml1, ↓ml2, ↓ml3, ↓ml4, ↓ml5, ↓ml7, ↓ml8, ↓ml9, ↓mlr, ↓mt1, ↓mt2, ↓mt3, ↓mt4, ↓mt5, ↓mt7, ↓mt8, ↓mt9, ↓mlz, ↓mtz, mm_i, cond_true, cond_false, qAv, qAn, qV_vv, zN_neg1, nL0, nL1, nL2, nL3, nL4, nL5, nL6, nL7, nL8, nL9, nL10, nL11, nL12, nL13, nL14, nL20, nL21, nL22, nL23, nL25, nL32, nL33, nL39, nL40, nL43, nL44, nL99, nL100, nL120, nL216, nL217, nL218, nL219, nL220, nL221, nL500, nL999, nL1000, nL10000, nL100000, qT_lt, qF_lt, qT_le, qF_le, qT_eq, qF_eq, ↓reduceIte, and_true, true_and, false_and, and_false, not_true_eq_false, not_false_eq_true, decide_true, decide_false, Bool.true_or, Bool.or_true, Bool.false_or, Bool.or_false, cond_true, cond_false, zN_eq, qbi, qb1, qb0, e0, b2, Option.bind_some]
theorem y_cell (hR : modR sc Rq Fq) : ∃ s1 R1, modR s1 R1 Fq ∧ s1 0 = zN (fCell Fq kq pq).1 ∧ pwX so 192 0 [some (.ref bq), some (.int kq), some (.int pq), none] [] g (mkM bq sc Rq w) = some (.inl (some (.int ((fCell Fq kq pq).2))), g, (mkM bq s1 R1 w)) := by
  have hI := hR.1.1
  have hz := hR.1.2
  have h4 := hI.1
  have b1 := o_isS (so := so) (g := g) (bq := bq) (sc := sc) (Rq := Rq) (w := w) (jr := 1) (pq := kq) (by decide) (by decide) hI hz
  unfold fCell
  by_cases h1 : isSd Fq.2.1 kq
  · rw [if_pos h1] at b1
    obtain ⟨n9, rfl, e4, e5, e6⟩ := un_ex h1.1
    have hs : n9 < tN Fq.2.1 0 := by have := h1.2; omega
    obtain ⟨⟨i1, i2, i3, i4, i5⟩, -, -, i6⟩ := hz.2.2.2.2 n9 hs
    have i7 := (hI.2.2 n9 hs).1.1
    rw [e6]
    by_cases h2 : 0 ≤ pq.toInt ∧ pq.toInt < (tN Fq.2.1 (4 + n9) : Int)
    · rw [if_pos ⟨h1, h2⟩]
      obtain ⟨m9, rfl, d4, d5, d6⟩ := un_ex h2.1
      rw [d6]
      have b2 : ∀ {w1 : pwW}, pwX so 133 0 [some (.long ((zN m9).toInt64)), none, some (.long 0), none, some (.long ((zN (tN Fq.2.1 (4 + n9) - 1)).toInt64)), none] [] g w1 = some (.inl (some (.int (zN 1))), g, w1) := in_T (by rw [i2l, i2l, jL0, zN_toInt (by omega), zN_toInt (by omega)]; omega)
      have i8 := i6 m9 (by omega)
      dsimp only
      refine y_ex hR ?_
      simp (disch := omega) only [s_X8_cell_0, s_X8_cell_1, s_X8_cell_4, s_X8_cell_5, s_X8_cell_8, s_X8_cell_11, s_X8_cell_12, s_X8_cell_13, s_X8_cell_14, s_X8_cell_15, s_X8_cell_18, s_X8_cell_19, s_X8_cell_22, s_X8_cell_23, s_X8_cell_24, s_X8_cell_25, s_X8_cell_26, s_X8_cell_27, s_X8_cell_28, s_X8_cell_31, s_X8_cell_34, s_X8_cell_35, s_X8_cell_38, s_X8_cell_39, s_X8_cell_40, s_X8_cell_41, s_X8_cell_42, s_X8_cell_45, s_X8_cell_46, s_X8_cell_49, s_X8_cell_50, s_X8_cell_53, s_X8_cell_56, s_X8_cell_57, s_X8_cell_58, s_X8_cell_59, s_X8_cell_62, s_X8_cell_63, s_X8_cell_66, s_X8_cell_68, s_X8_cell_69, s_X8_cell_70, s_X8_cell_71, s_X8_cell_72, s_X8_refused_0, s_X8_refused_1, s_X8_refused_2, s_X8_refused_5, s_X8_refused_6, s_X8_refused_9, s_X8_refused_10, s_X8_refused_13, s_X8_refused_14, ↓mg0, ↓mg1, ↓mg2, ↓mg3, ↓mg4, ↓mg5, ↓mg6, ↓mg7, ↓mg8, ↓mg9, ↓mg10, ↓mg11, ↓mg12, ↓mg13, ↓mg14, ↓mp0, ↓mp5, ↓mp11, ↓mp12, ↓mp13, ↓mp14, ↓ml1, ↓ml2, ↓ml3, ↓ml4, ↓ml5, ↓ml7, ↓ml8, ↓ml9, ↓mlr, ↓mt1, ↓mt2, ↓mt3, ↓mt4, ↓mt5, ↓mt7, ↓mt8, ↓mt9, ↓mlz, ↓mtz, mm_i, cond_true, cond_false, qAv, qAn, qV_vv, qV_s, qV_n, qU_s, qU_n, zN_neg1, nL0, nL1, nL2, nL3, nL4, nL5, nL6, nL7, nL8, nL9, nL10, nL11, nL12, nL13, nL14, nL20, nL21, nL22, nL23, nL25, nL32, nL33, nL39, nL40, nL43, nL44, nL99, nL100, nL120, nL216, nL217, nL218, nL219, nL220, nL221, nL500, nL999, nL1000, nL10000, nL100000, sh33, zN_lt, zN_le, zN_eq, zN_ge0, zN_lt0, zN_nm, zN_mn, zN_mlt, zN_ltm, zN_lem, zN_mle, zN_m1, zN_m2, zN_addm, zN_ofNat, zN_beq, zN_add, zN_sub, zN_mul, zN_rem, qT_lt, qF_lt, qT_le, qF_le, qT_eq, qF_eq, ↓reduceIte, and_true, true_and, false_and, and_false, not_true_eq_false, not_false_eq_true, decide_true, decide_false, Bool.true_or, Bool.or_true, Bool.false_or, Bool.or_false, cond_true, cond_false, qbi, qb1, qb0, n_block, b1, b2, i1, i8, Option.bind_some, Nat.add_zero]
    · rw [if_neg (fun hh => h2 hh.2)]
      have b2 : ∀ {w1 : pwW}, pwX so 133 0 [some (.long (pq.toInt64)), none, some (.long 0), none, some (.long ((zN (tN Fq.2.1 (4 + n9) - 1)).toInt64)), none] [] g w1 = some (.inl (some (.int (zN 0))), g, w1) := in_F (by rw [i2l, i2l, jL0, zN_toInt (by omega)]; intro hh; exact h2 ⟨hh.1, by omega⟩)
      dsimp only
      refine y_ex hR ?_
      simp (disch := omega) only [s_X8_cell_0, s_X8_cell_1, s_X8_cell_4, s_X8_cell_5, s_X8_cell_8, s_X8_cell_11, s_X8_cell_12, s_X8_cell_13, s_X8_cell_14, s_X8_cell_15, s_X8_cell_18, s_X8_cell_19, s_X8_cell_22, s_X8_cell_23, s_X8_cell_24, s_X8_cell_25, s_X8_cell_26, s_X8_cell_27, s_X8_cell_28, s_X8_cell_31, s_X8_cell_34, s_X8_cell_35, s_X8_cell_38, s_X8_cell_39, s_X8_cell_40, s_X8_cell_41, s_X8_cell_42, s_X8_cell_45, s_X8_cell_46, s_X8_cell_49, s_X8_cell_50, s_X8_cell_53, s_X8_cell_56, s_X8_cell_57, s_X8_cell_58, s_X8_cell_59, s_X8_cell_62, s_X8_cell_63, s_X8_cell_66, s_X8_cell_68, s_X8_cell_69, s_X8_cell_70, s_X8_cell_71, s_X8_cell_72, s_X8_refused_0, s_X8_refused_1, s_X8_refused_2, s_X8_refused_5, s_X8_refused_6, s_X8_refused_9, s_X8_refused_10, s_X8_refused_13, s_X8_refused_14, ↓mg0, ↓mg1, ↓mg2, ↓mg3, ↓mg4, ↓mg5, ↓mg6, ↓mg7, ↓mg8, ↓mg9, ↓mg10, ↓mg11, ↓mg12, ↓mg13, ↓mg14, ↓mp0, ↓mp5, ↓mp11, ↓mp12, ↓mp13, ↓mp14, ↓ml1, ↓ml2, ↓ml3, ↓ml4, ↓ml5, ↓ml7, ↓ml8, ↓ml9, ↓mlr, ↓mt1, ↓mt2, ↓mt3, ↓mt4, ↓mt5, ↓mt7, ↓mt8, ↓mt9, ↓mlz, ↓mtz, mm_i, cond_true, cond_false, qAv, qAn, qV_vv, qV_s, qV_n, qU_s, qU_n, zN_neg1, nL0, nL1, nL2, nL3, nL4, nL5, nL6, nL7, nL8, nL9, nL10, nL11, nL12, nL13, nL14, nL20, nL21, nL22, nL23, nL25, nL32, nL33, nL39, nL40, nL43, nL44, nL99, nL100, nL120, nL216, nL217, nL218, nL219, nL220, nL221, nL500, nL999, nL1000, nL10000, nL100000, sh33, zN_lt, zN_le, zN_eq, zN_ge0, zN_lt0, zN_nm, zN_mn, zN_mlt, zN_ltm, zN_lem, zN_mle, zN_m1, zN_m2, zN_addm, zN_ofNat, zN_beq, zN_add, zN_sub, zN_mul, zN_rem, qT_lt, qF_lt, qT_le, qF_le, qT_eq, qF_eq, ↓reduceIte, and_true, true_and, false_and, and_false, not_true_eq_false, not_false_eq_true, decide_true, decide_false, Bool.true_or, Bool.or_true, Bool.false_or, Bool.or_false, cond_true, cond_false, qbi, qb1, qb0, n_block, b1, b2, i1, Option.bind_some, Nat.add_zero]
  · rw [if_neg h1] at b1
    rw [if_neg (fun hh => h1 hh.1)]
    dsimp only
    refine y_ex hR ?_
    simp (disch := omega) only [s_X8_cell_0, s_X8_cell_1, s_X8_cell_4, s_X8_cell_5, s_X8_cell_8, s_X8_cell_11, s_X8_cell_12, s_X8_cell_13, s_X8_cell_14, s_X8_cell_15, s_X8_cell_18, s_X8_cell_19, s_X8_cell_22, s_X8_cell_23, s_X8_cell_24, s_X8_cell_25, s_X8_cell_26, s_X8_cell_27, s_X8_cell_28, s_X8_cell_31, s_X8_cell_34, s_X8_cell_35, s_X8_cell_38, s_X8_cell_39, s_X8_cell_40, s_X8_cell_41, s_X8_cell_42, s_X8_cell_45, s_X8_cell_46, s_X8_cell_49, s_X8_cell_50, s_X8_cell_53, s_X8_cell_56, s_X8_cell_57, s_X8_cell_58, s_X8_cell_59, s_X8_cell_62, s_X8_cell_63, s_X8_cell_66, s_X8_cell_68, s_X8_cell_69, s_X8_cell_70, s_X8_cell_71, s_X8_cell_72, s_X8_refused_0, s_X8_refused_1, s_X8_refused_2, s_X8_refused_5, s_X8_refused_6, s_X8_refused_9, s_X8_refused_10, s_X8_refused_13, s_X8_refused_14, ↓mg0, ↓mg1, ↓mg2, ↓mg3, ↓mg4, ↓mg5, ↓mg6, ↓mg7, ↓mg8, ↓mg9, ↓mg10, ↓mg11, ↓mg12, ↓mg13, ↓mg14, ↓mp0, ↓mp5, ↓mp11, ↓mp12, ↓mp13, ↓mp14, ↓ml1, ↓ml2, ↓ml3, ↓ml4, ↓ml5, ↓ml7, ↓ml8, ↓ml9, ↓mlr, ↓mt1, ↓mt2, ↓mt3, ↓mt4, ↓mt5, ↓mt7, ↓mt8, ↓mt9, ↓mlz, ↓mtz, mm_i, cond_true, cond_false, qAv, qAn, qV_vv, qV_s, qV_n, qU_s, qU_n, zN_neg1, nL0, nL1, nL2, nL3, nL4, nL5, nL6, nL7, nL8, nL9, nL10, nL11, nL12, nL13, nL14, nL20, nL21, nL22, nL23, nL25, nL32, nL33, nL39, nL40, nL43, nL44, nL99, nL100, nL120, nL216, nL217, nL218, nL219, nL220, nL221, nL500, nL999, nL1000, nL10000, nL100000, sh33, zN_lt, zN_le, zN_eq, zN_ge0, zN_lt0, zN_nm, zN_mn, zN_mlt, zN_ltm, zN_lem, zN_mle, zN_m1, zN_m2, zN_addm, zN_ofNat, zN_beq, zN_add, zN_sub, zN_mul, zN_rem, qT_lt, qF_lt, qT_le, qF_le, qT_eq, qF_eq, ↓reduceIte, and_true, true_and, false_and, and_false, not_true_eq_false, not_false_eq_true, decide_true, decide_false, Bool.true_or, Bool.or_true, Bool.false_or, Bool.or_false, cond_true, cond_false, qbi, qb1, qb0, b1, Option.bind_some]
theorem y_read (hR : modR sc Rq Fq) : ∃ s1 R1, modR s1 R1 Fq ∧ s1 0 = zN (fRead Fq kq pq).1 ∧ pwX so 194 0 [some (.ref bq), some (.int kq), some (.int pq)] [] g (mkM bq sc Rq w) = some (.inl (some (.int ((fRead Fq kq pq).2))), g, (mkM bq s1 R1 w)) := by
  have hI := hR.1.1
  have hz := hR.1.2
  have h4 := hI.1
  have b1 := o_isS (so := so) (g := g) (bq := bq) (sc := sc) (Rq := Rq) (w := w) (jr := 1) (pq := kq) (by decide) (by decide) hI hz
  unfold fRead
  by_cases h1 : isSd Fq.2.1 kq
  · rw [if_pos h1] at b1
    rw [if_pos h1]
    obtain ⟨n9, rfl, e4, e5, e6⟩ := un_ex h1.1
    have hs : n9 < tN Fq.2.1 0 := by have := h1.2; omega
    obtain ⟨-, -, ⟨i1, i2⟩, -⟩ := hz.2.2.2.2 n9 hs
    have i7 := (hI.2.2 n9 hs).2.2.2
    have i8 := (rd_le (Aq := Fq.2.1) (sq := n9) hI hs).1
    rw [e6]
    by_cases h2 : 0 ≤ pq.toInt
    · rw [if_pos h2]
      obtain ⟨m9, rfl, d4, d5, d6⟩ := un_ex h2
      rw [d6]
      dsimp only
      refine y_ex hR ?_
      unfold aRead
      by_cases h3 : m9 < (tL Fq.2.1 (8 + n9)).length
      · rw [if_pos h3]
        have i9 := i2 m9 _ (List.getElem?_eq_getElem h3)
        rw [List.getD_eq_getElem?_getD, List.getElem?_eq_getElem h3, Option.getD_some]
        simp (disch := omega) only [s_X8_read_0, s_X8_read_1, s_X8_read_2, s_X8_read_5, s_X8_read_6, s_X8_read_9, s_X8_read_12, s_X8_read_13, s_X8_read_16, s_X8_read_17, s_X8_read_20, s_X8_read_21, s_X8_read_24, s_X8_read_25, s_X8_read_28, s_X8_read_31, s_X8_read_32, s_X8_read_33, s_X8_read_34, s_X8_read_35, s_X8_read_38, s_X8_read_39, s_X8_read_42, s_X8_read_44, s_X8_read_45, s_X8_read_46, s_X8_read_49, s_X8_read_50, s_X8_read_53, s_X8_read_54, s_X8_read_57, s_X8_read_59, s_X8_read_60, s_X8_read_61, s_X8_read_62, s_X8_read_63, s_X8_read_66, s_X8_read_67, s_X8_refused_0, s_X8_refused_1, s_X8_refused_2, s_X8_refused_5, s_X8_refused_6, s_X8_refused_9, s_X8_refused_10, s_X8_refused_13, s_X8_refused_14, ↓mg0, ↓mg1, ↓mg2, ↓mg3, ↓mg4, ↓mg5, ↓mg6, ↓mg7, ↓mg8, ↓mg9, ↓mg10, ↓mg11, ↓mg12, ↓mg13, ↓mg14, ↓mp0, ↓mp5, ↓mp11, ↓mp12, ↓mp13, ↓mp14, ↓ml1, ↓ml2, ↓ml3, ↓ml4, ↓ml5, ↓ml7, ↓ml8, ↓ml9, ↓mlr, ↓mt1, ↓mt2, ↓mt3, ↓mt4, ↓mt5, ↓mt7, ↓mt8, ↓mt9, ↓mlz, ↓mtz, mm_i, cond_true, cond_false, qAv, qAn, qV_vv, qV_s, qV_n, qU_s, qU_n, zN_neg1, nL0, nL1, nL2, nL3, nL4, nL5, nL6, nL7, nL8, nL9, nL10, nL11, nL12, nL13, nL14, nL20, nL21, nL22, nL23, nL25, nL32, nL33, nL39, nL40, nL43, nL44, nL99, nL100, nL120, nL216, nL217, nL218, nL219, nL220, nL221, nL500, nL999, nL1000, nL10000, nL100000, sh33, zN_lt, zN_le, zN_eq, zN_ge0, zN_lt0, zN_nm, zN_mn, zN_mlt, zN_ltm, zN_lem, zN_mle, zN_m1, zN_m2, zN_addm, zN_ofNat, zN_beq, zN_add, zN_sub, zN_mul, zN_rem, qT_lt, qF_lt, qT_le, qF_le, qT_eq, qF_eq, ↓reduceIte, and_true, true_and, false_and, and_false, not_true_eq_false, not_false_eq_true, decide_true, decide_false, Bool.true_or, Bool.or_true, Bool.false_or, Bool.or_false, cond_true, cond_false, qbi, qb1, qb0, n_block, b1, i1, i9, Option.bind_some]
      · rw [if_neg h3]
        simp (disch := omega) only [s_X8_read_0, s_X8_read_1, s_X8_read_2, s_X8_read_5, s_X8_read_6, s_X8_read_9, s_X8_read_12, s_X8_read_13, s_X8_read_16, s_X8_read_17, s_X8_read_20, s_X8_read_21, s_X8_read_24, s_X8_read_25, s_X8_read_28, s_X8_read_31, s_X8_read_32, s_X8_read_33, s_X8_read_34, s_X8_read_35, s_X8_read_38, s_X8_read_39, s_X8_read_42, s_X8_read_44, s_X8_read_45, s_X8_read_46, s_X8_read_49, s_X8_read_50, s_X8_read_53, s_X8_read_54, s_X8_read_57, s_X8_read_59, s_X8_read_60, s_X8_read_61, s_X8_read_62, s_X8_read_63, s_X8_read_66, s_X8_read_67, s_X8_refused_0, s_X8_refused_1, s_X8_refused_2, s_X8_refused_5, s_X8_refused_6, s_X8_refused_9, s_X8_refused_10, s_X8_refused_13, s_X8_refused_14, ↓mg0, ↓mg1, ↓mg2, ↓mg3, ↓mg4, ↓mg5, ↓mg6, ↓mg7, ↓mg8, ↓mg9, ↓mg10, ↓mg11, ↓mg12, ↓mg13, ↓mg14, ↓mp0, ↓mp5, ↓mp11, ↓mp12, ↓mp13, ↓mp14, ↓ml1, ↓ml2, ↓ml3, ↓ml4, ↓ml5, ↓ml7, ↓ml8, ↓ml9, ↓mlr, ↓mt1, ↓mt2, ↓mt3, ↓mt4, ↓mt5, ↓mt7, ↓mt8, ↓mt9, ↓mlz, ↓mtz, mm_i, cond_true, cond_false, qAv, qAn, qV_vv, qV_s, qV_n, qU_s, qU_n, zN_neg1, nL0, nL1, nL2, nL3, nL4, nL5, nL6, nL7, nL8, nL9, nL10, nL11, nL12, nL13, nL14, nL20, nL21, nL22, nL23, nL25, nL32, nL33, nL39, nL40, nL43, nL44, nL99, nL100, nL120, nL216, nL217, nL218, nL219, nL220, nL221, nL500, nL999, nL1000, nL10000, nL100000, sh33, zN_lt, zN_le, zN_eq, zN_ge0, zN_lt0, zN_nm, zN_mn, zN_mlt, zN_ltm, zN_lem, zN_mle, zN_m1, zN_m2, zN_addm, zN_ofNat, zN_beq, zN_add, zN_sub, zN_mul, zN_rem, qT_lt, qF_lt, qT_le, qF_le, qT_eq, qF_eq, ↓reduceIte, and_true, true_and, false_and, and_false, not_true_eq_false, not_false_eq_true, decide_true, decide_false, Bool.true_or, Bool.or_true, Bool.false_or, Bool.or_false, cond_true, cond_false, qbi, qb1, qb0, n_block, b1, i1, Option.bind_some]
    · rw [if_neg h2]
      dsimp only
      refine y_ex hR ?_
      have h3 : (zN 0 ≤ pq) = False := eq_false (by rw [Int32.le_iff_toInt_le, zN_toInt (by decide)]; omega)
      simp (disch := omega) only [s_X8_read_0, s_X8_read_1, s_X8_read_2, s_X8_read_5, s_X8_read_6, s_X8_read_9, s_X8_read_12, s_X8_read_13, s_X8_read_16, s_X8_read_17, s_X8_read_20, s_X8_read_21, s_X8_read_24, s_X8_read_25, s_X8_read_28, s_X8_read_31, s_X8_read_32, s_X8_read_33, s_X8_read_34, s_X8_read_35, s_X8_read_38, s_X8_read_39, s_X8_read_42, s_X8_read_44, s_X8_read_45, s_X8_read_46, s_X8_read_49, s_X8_read_50, s_X8_read_53, s_X8_read_54, s_X8_read_57, s_X8_read_59, s_X8_read_60, s_X8_read_61, s_X8_read_62, s_X8_read_63, s_X8_read_66, s_X8_read_67, s_X8_refused_0, s_X8_refused_1, s_X8_refused_2, s_X8_refused_5, s_X8_refused_6, s_X8_refused_9, s_X8_refused_10, s_X8_refused_13, s_X8_refused_14, ↓mg0, ↓mg1, ↓mg2, ↓mg3, ↓mg4, ↓mg5, ↓mg6, ↓mg7, ↓mg8, ↓mg9, ↓mg10, ↓mg11, ↓mg12, ↓mg13, ↓mg14, ↓mp0, ↓mp5, ↓mp11, ↓mp12, ↓mp13, ↓mp14, ↓ml1, ↓ml2, ↓ml3, ↓ml4, ↓ml5, ↓ml7, ↓ml8, ↓ml9, ↓mlr, ↓mt1, ↓mt2, ↓mt3, ↓mt4, ↓mt5, ↓mt7, ↓mt8, ↓mt9, ↓mlz, ↓mtz, mm_i, cond_true, cond_false, qAv, qAn, qV_vv, qV_s, qV_n, qU_s, qU_n, zN_neg1, nL0, nL1, nL2, nL3, nL4, nL5, nL6, nL7, nL8, nL9, nL10, nL11, nL12, nL13, nL14, nL20, nL21, nL22, nL23, nL25, nL32, nL33, nL39, nL40, nL43, nL44, nL99, nL100, nL120, nL216, nL217, nL218, nL219, nL220, nL221, nL500, nL999, nL1000, nL10000, nL100000, sh33, zN_lt, zN_le, zN_eq, zN_ge0, zN_lt0, zN_nm, zN_mn, zN_mlt, zN_ltm, zN_lem, zN_mle, zN_m1, zN_m2, zN_addm, zN_ofNat, zN_beq, zN_add, zN_sub, zN_mul, zN_rem, qT_lt, qF_lt, qT_le, qF_le, qT_eq, qF_eq, ↓reduceIte, and_true, true_and, false_and, and_false, not_true_eq_false, not_false_eq_true, decide_true, decide_false, Bool.true_or, Bool.or_true, Bool.false_or, Bool.or_false, cond_true, cond_false, qbi, qb1, qb0, n_block, b1, h3, Option.bind_some]
  · rw [if_neg h1] at b1
    rw [if_neg h1]
    dsimp only
    refine y_ex hR ?_
    simp (disch := omega) only [s_X8_read_0, s_X8_read_1, s_X8_read_2, s_X8_read_5, s_X8_read_6, s_X8_read_9, s_X8_read_12, s_X8_read_13, s_X8_read_16, s_X8_read_17, s_X8_read_20, s_X8_read_21, s_X8_read_24, s_X8_read_25, s_X8_read_28, s_X8_read_31, s_X8_read_32, s_X8_read_33, s_X8_read_34, s_X8_read_35, s_X8_read_38, s_X8_read_39, s_X8_read_42, s_X8_read_44, s_X8_read_45, s_X8_read_46, s_X8_read_49, s_X8_read_50, s_X8_read_53, s_X8_read_54, s_X8_read_57, s_X8_read_59, s_X8_read_60, s_X8_read_61, s_X8_read_62, s_X8_read_63, s_X8_read_66, s_X8_read_67, s_X8_refused_0, s_X8_refused_1, s_X8_refused_2, s_X8_refused_5, s_X8_refused_6, s_X8_refused_9, s_X8_refused_10, s_X8_refused_13, s_X8_refused_14, ↓mg0, ↓mg1, ↓mg2, ↓mg3, ↓mg4, ↓mg5, ↓mg6, ↓mg7, ↓mg8, ↓mg9, ↓mg10, ↓mg11, ↓mg12, ↓mg13, ↓mg14, ↓mp0, ↓mp5, ↓mp11, ↓mp12, ↓mp13, ↓mp14, ↓ml1, ↓ml2, ↓ml3, ↓ml4, ↓ml5, ↓ml7, ↓ml8, ↓ml9, ↓mlr, ↓mt1, ↓mt2, ↓mt3, ↓mt4, ↓mt5, ↓mt7, ↓mt8, ↓mt9, ↓mlz, ↓mtz, mm_i, cond_true, cond_false, qAv, qAn, qV_vv, qV_s, qV_n, qU_s, qU_n, zN_neg1, nL0, nL1, nL2, nL3, nL4, nL5, nL6, nL7, nL8, nL9, nL10, nL11, nL12, nL13, nL14, nL20, nL21, nL22, nL23, nL25, nL32, nL33, nL39, nL40, nL43, nL44, nL99, nL100, nL120, nL216, nL217, nL218, nL219, nL220, nL221, nL500, nL999, nL1000, nL10000, nL100000, sh33, zN_lt, zN_le, zN_eq, zN_ge0, zN_lt0, zN_nm, zN_mn, zN_mlt, zN_ltm, zN_lem, zN_mle, zN_m1, zN_m2, zN_addm, zN_ofNat, zN_beq, zN_add, zN_sub, zN_mul, zN_rem, qT_lt, qF_lt, qT_le, qF_le, qT_eq, qF_eq, ↓reduceIte, and_true, true_and, false_and, and_false, not_true_eq_false, not_false_eq_true, decide_true, decide_false, Bool.true_or, Bool.or_true, Bool.false_or, Bool.or_false, cond_true, cond_false, qbi, qb1, qb0, b1, Option.bind_some]
end QA

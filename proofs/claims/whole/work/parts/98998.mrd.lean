/-! the pure part: the model reads a text: a command -/
def rdR (sc : Nat → Int32) (Rq : Nat → Nat → Int32) (Fq : FS) (Aq : TA) : Prop := modR sc Rq Fq ∧ invT Aq ∧ repM Aq (Rq 3)
def rdE (fz : Nat → (Nat → Int32) → TA → Int32 × TA) (cq : Nat) (rq : (Nat × Nat) × (Nat → Int32)) (kq : Nat) (Aq : TA) : (Nat × Nat) × (Nat × TA) :=
  if rq.1.1 = 1 then (rq.1, ((if (fz cq rq.2 Aq).1 = zN 0 then kq + 1 else kq), (fz cq rq.2 Aq).2)) else (rq.1, (kq, Aq))
def rdC (fz : Nat → (Nat → Int32) → TA → Int32 × TA) (tx : List Nat) (cq iq kq : Nat) (Aq : TA) : (Nat × Nat) × (Nat × TA) := rdE fz cq (rdF tx cq (rwN (ltI cq) / 3) 0 (1, iq) (fun _ => 0)) kq Aq
theorem rdE_T {fz : Nat → (Nat → Int32) → TA → Int32 × TA} {cq iq kq : Nat} {f9 : Nat → Int32} {Aq : TA} : rdE fz cq ((1, iq), f9) kq Aq = ((1, iq), ((if (fz cq f9 Aq).1 = zN 0 then kq + 1 else kq), (fz cq f9 Aq).2)) := if_pos rfl
theorem rdE_F {fz : Nat → (Nat → Int32) → TA → Int32 × TA} {cq iq kq : Nat} {f9 : Nat → Int32} {Aq : TA} : rdE fz cq ((0, iq), f9) kq Aq = ((0, iq), (kq, Aq)) := if_neg (show ¬ ((0 : Nat) = 1) by decide)
theorem cs_01 {bz : Nat} (h : bz ≤ 1) : bz = 0 ∨ bz = 1 := by omega
theorem rdF_s {tx : List Nat} {cq mq nq : Nat} {st : Nat × Nat} {f9 : Nat → Int32} : rdF tx cq (mq + 1) nq st f9 = rdF tx cq mq (nq + 1) (rdNum tx cq nq st).2 (upd f9 nq (zN (rdNum tx cq nq st).1)) := rfl
theorem rdF_0 {tx : List Nat} {cq nq : Nat} {st : Nat × Nat} {f9 : Nat → Int32} : rdF tx cq 0 nq st f9 = (st, f9) := rfl
theorem rn_T {tx : List Nat} {cq nq : Nat} {st : Nat × Nat} (lo hi : Nat) (h1 : rwV (ltI cq) (3 * nq) = 2) (h2 : bsN cq = 48) (h3 : rwV (ltI cq) (3 * nq + 1) = lo) (h4 : rwV (ltI cq) (3 * nq + 2) = hi) : rdNum tx cq nq st = dtB 48 lo hi tx st := by unfold rdNum; rw [if_pos h1, h2, h3, h4]
theorem rn_1 {tx : List Nat} {cq nq : Nat} {st : Nat × Nat} (bs lo hi : Nat) (h1 : ¬ rwV (ltI cq) (3 * nq) = 2) (h2 : bsN cq = bs) (h3 : rwV (ltI cq) (3 * nq + 1) = lo) (h4 : rwV (ltI cq) (3 * nq + 2) = hi) : rdNum tx cq nq st = dgB bs lo hi tx st := by unfold rdNum; rw [if_neg h1, h2, h3, h4]
theorem qI_T {Pq : Prop} [Decidable Pq] (h : Pq) : qI Pq = zN 1 := if_pos h
theorem qI_F {Pq : Prop} [Decidable Pq] (h : ¬ Pq) : qI Pq = zN 0 := if_neg h
theorem n10_ : ¬ (zN 1 = zN 0) := by decide
theorem rdF_1 {tx : List Nat} {cq nq : Nat} {st : Nat × Nat} {f9 : Nat → Int32} : rdF tx cq 1 nq st f9 = ((rdNum tx cq nq st).2, upd f9 nq (zN (rdNum tx cq nq st).1)) := rfl
section QA
variable {so : Nat → Nat} {g : pwG} {bq : Nat} {w : pwW} {Fq : FS} {pq kq rq tq uq vq : Int32} {Aq Bq : TA} {sc s1 : Nat → Int32} {Rq R1 : Nat → Nat → Int32} {fq hq : Nat → Int32} {iq bz nz lo hi : Nat} {tx : List Nat}
theorem rdR_f (h : rdR sc Rq Fq Aq) (hI : invT Bq) (hz : repM Bq fq) : rdR sc (va_up Rq 3 fq) Fq Bq := ⟨modR_w h.1 (Or.inr (Or.inl rfl)), hI, by rw [qV_s]; exact hz⟩
theorem rdR_7 (h : rdR sc Rq Fq Aq) : rdR sc (va_up Rq 7 fq) Fq Aq := ⟨modR_w h.1 (Or.inr (Or.inr (Or.inl rfl))), h.2.1, by rw [qV_n (by decide)]; exact h.2.2⟩
theorem rdR_t (h : rdR sc Rq Fq Aq) : txR sc Rq Fq.1 := h.1.2.2.2
theorem oG_T (h1 : okSt kq pq) : aG Aq kq pq = tNum Aq (2 + un kq) (un pq) := if_pos h1
theorem n_rdW (h : rdR sc Rq Fq Aq) (hi2 : iq ≤ Fq.1.length) : ∃ R1, rdR sc R1 Fq (rdC carry Fq.1 119 iq nz Aq).2.2 ∧ pwX so 179 0 [some (.ref bq), none] [] g (mkM bq (rdS sc iq 1 nz) Rq w) = some (.inl none, g, (mkM bq (rdS sc (rdC carry Fq.1 119 iq nz Aq).1.2 (rdC carry Fq.1 119 iq nz Aq).1.1 (rdC carry Fq.1 119 iq nz Aq).2.1) R1 w)) := by
  have hT := rdR_t h
  have hI := h.2.1
  have hz := h.2.2
  have h4 := hI.1
  have t2 := hT.2.1
  have e0 : Rq 3 0 = zN (tN Aq 1) := hz.1.1
  have er : rdC carry Fq.1 119 iq nz Aq = rdE carry 119 ((dgB 65 0 25 Fq.1 (1, iq)).2, upd (fun _ => 0) 0 (zN (dgB 65 0 25 Fq.1 (1, iq)).1)) nz Aq := by
    unfold rdC
    rw [show rwN (ltI 119) / 3 = 1 by decide, rdF_s, rdF_0]
    rw [rn_1 (cq := 119) (nq := 0) 65 0 25 (by decide) (by decide) (by decide) (by decide)]
  rw [er]
  have gs := fun (w1 : pwW) (i9 b9 c9 : Nat) (hb : b9 = 0 ∨ b9 = 1) (hc : c9 = 0 ∨ c9 = 1) => @n_goes so g bq w1 sc Rq i9 b9 nz c9 hb hc
  by_cases h1 : iq < Fq.1.length ∧ 65 + 0 ≤ Fq.1.getD iq 0 ∧ Fq.1.getD iq 0 ≤ 65 + 25
  · rw [dgB_T h1]
    dsimp only
    rw [rdE_T]
    obtain ⟨h1, h2, h3⟩ := h1
    have b1 := fun (w1 : pwW) => @n_hereT so g bq w1 sc Rq iq 1 nz Fq.1 hT h1
    have b3 : zN (Fq.1.getD iq 0) - zN 65 = zN (Fq.1.getD iq 0 - 65) := zN_sub (by omega)
    have b2 : ∀ {w1 : pwW}, pwX so 140 0 [some (.int (zN (Fq.1.getD iq 0 - 65)))] [] g w1 = some (.inl (some (.int (zN 1))), g, w1) := by intro w1; rw [n_isLetter, zN_toInt (by omega), if_pos (by omega)]
    have ec : carry 119 (upd (fun _ => 0) 0 (zN (Fq.1.getD iq 0 - 65))) Aq = (qI (tyW Aq (zN (Fq.1.getD iq 0 - 65))), aW Aq (zN (Fq.1.getD iq 0 - 65))) := rfl
    rw [ec]
    dsimp only
    have ok : okL (zN (Fq.1.getD iq 0 - 65)) := by unfold okL; rw [zN_toInt (by omega)]; omega
    by_cases h5 : tN Aq 1 < 10
    · rw [qI_T (Pq := tyW Aq (zN (Fq.1.getD iq 0 - 65))) ⟨ok, h5⟩, if_neg n10_, show aW Aq (zN (Fq.1.getD iq 0 - 65)) = tWalker Aq (zN (Fq.1.getD iq 0 - 65)) from if_pos ⟨ok, h5⟩]
      have g1 := gs w (iq + 1) 1 1 (Or.inr rfl) (Or.inr rfl)
      rw [show 1 * 1 = 1 from rfl, show nz + 1 * (1 - 1) = nz from rfl] at g1
      obtain ⟨f1, a1, a2⟩ := n_goWalker (so := so) (g := g) (aq := bq + 3) (fq := Rq 3) (w := mkM bq (rdS sc (iq + 1) 1 nz) Rq w) (Aq := Aq) (pq := zN (Fq.1.getD iq 0 - 65)) hI hz h5
      rw [mr_in (by decide) (by decide), mr_out (by decide) (by decide)] at a2
      refine ⟨va_up Rq 3 f1, rdR_f h (inv_Walker hI h5) a1, ?_⟩
      simp (disch := omega) only [s_X8_readWalker_0, s_X8_readWalker_1, s_X8_readWalker_4, s_X8_readWalker_6, s_X8_readWalker_7, s_X8_readWalker_8, s_X8_readWalker_9, s_X8_readWalker_10, s_X8_readWalker_13, s_X8_readWalker_16, s_X8_readWalker_17, s_X8_readWalker_18, s_X8_readWalker_21, s_X8_readWalker_22, s_X8_readWalker_23, s_X8_readWalker_25, s_X8_readWalker_28, s_X8_readWalker_29, s_X8_readWalker_32, s_X8_readWalker_33, s_X8_readWalker_36, s_X8_readWalker_39, s_X8_readWalker_40, s_X8_readWalker_43, s_X8_readWalker_44, s_X8_readWalker_47, s_X8_readWalker_48, ↓mg0, ↓mg1, ↓mg2, ↓mg3, ↓mg4, ↓mg5, ↓mg6, ↓mg7, ↓mg8, ↓mg9, ↓mg10, ↓mg11, ↓mg12, ↓mg13, ↓mg14, ↓mp0, ↓mp5, ↓mp11, ↓mp12, ↓mp13, ↓mp14, ↓ml1, ↓ml2, ↓ml3, ↓ml4, ↓ml5, ↓ml7, ↓ml8, ↓ml9, ↓mlr, ↓mt1, ↓mt2, ↓mt3, ↓mt4, ↓mt5, ↓mt7, ↓mt8, ↓mt9, ↓mlz, ↓mtz, mm_i, cond_true, cond_false, qAv, qAn, qV_vv, qV_s, qV_n, qU_s, qU_n, zN_neg1, nL0, nL1, nL2, nL3, nL4, nL5, nL6, nL7, nL8, nL9, nL10, nL11, nL12, nL13, nL14, nL20, nL21, nL22, nL23, nL25, nL32, nL33, nL39, nL40, nL43, nL44, nL99, nL100, nL120, nL216, nL217, nL218, nL219, nL220, nL221, nL500, nL999, nL1000, nL10000, nL100000, sh33, zN_lt, zN_le, zN_eq, zN_ge0, zN_lt0, zN_nm, zN_mn, zN_mlt, zN_ltm, zN_lem, zN_mle, zN_m1, zN_m2, zN_addm, zN_ofNat, zN_beq, zN_add, zN_sub, zN_mul, zN_rem, qT_lt, qF_lt, qT_le, qF_le, qT_eq, qF_eq, ↓reduceIte, and_true, true_and, false_and, and_false, not_true_eq_false, not_false_eq_true, decide_true, decide_false, Bool.true_or, Bool.or_true, Bool.false_or, Bool.or_false, cond_true, cond_false, qbi, qb1, qb0, nL65, b1, b3, b2, n_takeT, e0, g1, a2]
    · rw [qI_F (Pq := tyW Aq (zN (Fq.1.getD iq 0 - 65))) (fun hh => h5 hh.2), if_pos rfl, show aW Aq (zN (Fq.1.getD iq 0 - 65)) = Aq from if_neg (fun hh => h5 hh.2)]
      have g1 := gs w (iq + 1) 1 0 (Or.inr rfl) (Or.inl rfl)
      rw [show 1 * 0 = 0 from rfl, show nz + 1 * (1 - 0) = nz + 1 from rfl] at g1
      refine ⟨Rq, h, ?_⟩
      simp (disch := omega) only [s_X8_readWalker_0, s_X8_readWalker_1, s_X8_readWalker_4, s_X8_readWalker_6, s_X8_readWalker_7, s_X8_readWalker_8, s_X8_readWalker_9, s_X8_readWalker_10, s_X8_readWalker_13, s_X8_readWalker_16, s_X8_readWalker_17, s_X8_readWalker_18, s_X8_readWalker_21, s_X8_readWalker_22, s_X8_readWalker_23, s_X8_readWalker_25, s_X8_readWalker_28, s_X8_readWalker_29, s_X8_readWalker_32, s_X8_readWalker_33, s_X8_readWalker_36, s_X8_readWalker_39, s_X8_readWalker_40, s_X8_readWalker_43, s_X8_readWalker_44, s_X8_readWalker_47, s_X8_readWalker_48, ↓mg0, ↓mg1, ↓mg2, ↓mg3, ↓mg4, ↓mg5, ↓mg6, ↓mg7, ↓mg8, ↓mg9, ↓mg10, ↓mg11, ↓mg12, ↓mg13, ↓mg14, ↓mp0, ↓mp5, ↓mp11, ↓mp12, ↓mp13, ↓mp14, ↓ml1, ↓ml2, ↓ml3, ↓ml4, ↓ml5, ↓ml7, ↓ml8, ↓ml9, ↓mlr, ↓mt1, ↓mt2, ↓mt3, ↓mt4, ↓mt5, ↓mt7, ↓mt8, ↓mt9, ↓mlz, ↓mtz, mm_i, cond_true, cond_false, qAv, qAn, qV_vv, qV_s, qV_n, qU_s, qU_n, zN_neg1, nL0, nL1, nL2, nL3, nL4, nL5, nL6, nL7, nL8, nL9, nL10, nL11, nL12, nL13, nL14, nL20, nL21, nL22, nL23, nL25, nL32, nL33, nL39, nL40, nL43, nL44, nL99, nL100, nL120, nL216, nL217, nL218, nL219, nL220, nL221, nL500, nL999, nL1000, nL10000, nL100000, sh33, zN_lt, zN_le, zN_eq, zN_ge0, zN_lt0, zN_nm, zN_mn, zN_mlt, zN_ltm, zN_lem, zN_mle, zN_m1, zN_m2, zN_addm, zN_ofNat, zN_beq, zN_add, zN_sub, zN_mul, zN_rem, qT_lt, qF_lt, qT_le, qF_le, qT_eq, qF_eq, ↓reduceIte, and_true, true_and, false_and, and_false, not_true_eq_false, not_false_eq_true, decide_true, decide_false, Bool.true_or, Bool.or_true, Bool.false_or, Bool.or_false, cond_true, cond_false, qbi, qb1, qb0, nL65, b1, b3, b2, n_takeT, e0, g1]
  · rw [dgB_F h1]
    dsimp only
    rw [rdE_F]
    refine ⟨Rq, h, ?_⟩
    dsimp only
    have g0 := gs w iq 0 0 (Or.inl rfl) (Or.inl rfl)
    have g1 := gs w iq 0 1 (Or.inl rfl) (Or.inr rfl)
    rw [show 0 * 0 = 0 from rfl, show nz + 0 * (1 - 0) = nz from by rw [Nat.zero_mul]; rfl] at g0
    rw [show 0 * 1 = 0 from rfl, show nz + 0 * (1 - 1) = nz from rfl] at g1
    have hcan : tN Aq 1 < 10 ∨ ¬ tN Aq 1 < 10 := by omega
    by_cases h2 : iq < Fq.1.length
    · have b1 := fun (w1 : pwW) => @n_hereT so g bq w1 sc Rq iq 1 nz Fq.1 hT h2
      have hle := tx_le (iq := iq) hT
      have hd := d65_ ⟨Fq.1.getD iq 0, by omega⟩
      dsimp only at hd
      have b2 : ∀ {w1 : pwW}, pwX so 140 0 [some (.int (zN (Fq.1.getD iq 0) - zN 65))] [] g w1 = some (.inl (some (.int (zN 0))), g, w1) := by intro w1; rw [n_isLetter, hd, if_neg (by omega)]
      rcases hcan with h5 | h5
      · simp (disch := omega) only [s_X8_readWalker_0, s_X8_readWalker_1, s_X8_readWalker_4, s_X8_readWalker_6, s_X8_readWalker_7, s_X8_readWalker_8, s_X8_readWalker_9, s_X8_readWalker_10, s_X8_readWalker_13, s_X8_readWalker_16, s_X8_readWalker_17, s_X8_readWalker_18, s_X8_readWalker_21, s_X8_readWalker_22, s_X8_readWalker_23, s_X8_readWalker_25, s_X8_readWalker_28, s_X8_readWalker_29, s_X8_readWalker_32, s_X8_readWalker_33, s_X8_readWalker_36, s_X8_readWalker_39, s_X8_readWalker_40, s_X8_readWalker_43, s_X8_readWalker_44, s_X8_readWalker_47, s_X8_readWalker_48, ↓mg0, ↓mg1, ↓mg2, ↓mg3, ↓mg4, ↓mg5, ↓mg6, ↓mg7, ↓mg8, ↓mg9, ↓mg10, ↓mg11, ↓mg12, ↓mg13, ↓mg14, ↓mp0, ↓mp5, ↓mp11, ↓mp12, ↓mp13, ↓mp14, ↓ml1, ↓ml2, ↓ml3, ↓ml4, ↓ml5, ↓ml7, ↓ml8, ↓ml9, ↓mlr, ↓mt1, ↓mt2, ↓mt3, ↓mt4, ↓mt5, ↓mt7, ↓mt8, ↓mt9, ↓mlz, ↓mtz, mm_i, cond_true, cond_false, qAv, qAn, zN_neg1, nL0, nL1, nL2, nL3, nL4, nL5, nL6, nL7, nL8, nL9, nL10, nL11, nL12, nL13, nL14, nL20, nL21, nL22, nL23, nL25, nL32, nL33, nL39, nL40, nL43, nL44, nL99, nL100, nL120, nL216, nL217, nL218, nL219, nL220, nL221, nL500, nL999, nL1000, nL10000, nL100000, zN_eq, zN_le, zN_lt, qT_lt, qF_lt, qT_le, qF_le, qT_eq, qF_eq, ↓reduceIte, and_true, true_and, false_and, and_false, not_true_eq_false, not_false_eq_true, decide_true, decide_false, Bool.true_or, Bool.or_true, Bool.false_or, Bool.or_false, cond_true, cond_false, qbi, qb1, qb0, nL65, b1, b2, n_takeF, e0, g0, g1]
      · simp (disch := omega) only [s_X8_readWalker_0, s_X8_readWalker_1, s_X8_readWalker_4, s_X8_readWalker_6, s_X8_readWalker_7, s_X8_readWalker_8, s_X8_readWalker_9, s_X8_readWalker_10, s_X8_readWalker_13, s_X8_readWalker_16, s_X8_readWalker_17, s_X8_readWalker_18, s_X8_readWalker_21, s_X8_readWalker_22, s_X8_readWalker_23, s_X8_readWalker_25, s_X8_readWalker_28, s_X8_readWalker_29, s_X8_readWalker_32, s_X8_readWalker_33, s_X8_readWalker_36, s_X8_readWalker_39, s_X8_readWalker_40, s_X8_readWalker_43, s_X8_readWalker_44, s_X8_readWalker_47, s_X8_readWalker_48, ↓mg0, ↓mg1, ↓mg2, ↓mg3, ↓mg4, ↓mg5, ↓mg6, ↓mg7, ↓mg8, ↓mg9, ↓mg10, ↓mg11, ↓mg12, ↓mg13, ↓mg14, ↓mp0, ↓mp5, ↓mp11, ↓mp12, ↓mp13, ↓mp14, ↓ml1, ↓ml2, ↓ml3, ↓ml4, ↓ml5, ↓ml7, ↓ml8, ↓ml9, ↓mlr, ↓mt1, ↓mt2, ↓mt3, ↓mt4, ↓mt5, ↓mt7, ↓mt8, ↓mt9, ↓mlz, ↓mtz, mm_i, cond_true, cond_false, qAv, qAn, zN_neg1, nL0, nL1, nL2, nL3, nL4, nL5, nL6, nL7, nL8, nL9, nL10, nL11, nL12, nL13, nL14, nL20, nL21, nL22, nL23, nL25, nL32, nL33, nL39, nL40, nL43, nL44, nL99, nL100, nL120, nL216, nL217, nL218, nL219, nL220, nL221, nL500, nL999, nL1000, nL10000, nL100000, zN_eq, zN_le, zN_lt, qT_lt, qF_lt, qT_le, qF_le, qT_eq, qF_eq, ↓reduceIte, and_true, true_and, false_and, and_false, not_true_eq_false, not_false_eq_true, decide_true, decide_false, Bool.true_or, Bool.or_true, Bool.false_or, Bool.or_false, cond_true, cond_false, qbi, qb1, qb0, nL65, b1, b2, n_takeF, e0, g0, g1]
    · have b1 := fun (w1 : pwW) => @n_hereF so g bq w1 sc Rq iq 1 nz Fq.1 hT (by omega) (by omega)
      have b2 : ∀ {w1 : pwW}, pwX so 140 0 [some (.int (zM - zN 65))] [] g w1 = some (.inl (some (.int (zN 0))), g, w1) := by intro w1; rw [n_isLetter, show (zM - zN 65).toInt = -66 from rfl, if_neg (by omega)]
      rcases hcan with h5 | h5
      · simp (disch := omega) only [s_X8_readWalker_0, s_X8_readWalker_1, s_X8_readWalker_4, s_X8_readWalker_6, s_X8_readWalker_7, s_X8_readWalker_8, s_X8_readWalker_9, s_X8_readWalker_10, s_X8_readWalker_13, s_X8_readWalker_16, s_X8_readWalker_17, s_X8_readWalker_18, s_X8_readWalker_21, s_X8_readWalker_22, s_X8_readWalker_23, s_X8_readWalker_25, s_X8_readWalker_28, s_X8_readWalker_29, s_X8_readWalker_32, s_X8_readWalker_33, s_X8_readWalker_36, s_X8_readWalker_39, s_X8_readWalker_40, s_X8_readWalker_43, s_X8_readWalker_44, s_X8_readWalker_47, s_X8_readWalker_48, ↓mg0, ↓mg1, ↓mg2, ↓mg3, ↓mg4, ↓mg5, ↓mg6, ↓mg7, ↓mg8, ↓mg9, ↓mg10, ↓mg11, ↓mg12, ↓mg13, ↓mg14, ↓mp0, ↓mp5, ↓mp11, ↓mp12, ↓mp13, ↓mp14, ↓ml1, ↓ml2, ↓ml3, ↓ml4, ↓ml5, ↓ml7, ↓ml8, ↓ml9, ↓mlr, ↓mt1, ↓mt2, ↓mt3, ↓mt4, ↓mt5, ↓mt7, ↓mt8, ↓mt9, ↓mlz, ↓mtz, mm_i, cond_true, cond_false, qAv, qAn, zN_neg1, nL0, nL1, nL2, nL3, nL4, nL5, nL6, nL7, nL8, nL9, nL10, nL11, nL12, nL13, nL14, nL20, nL21, nL22, nL23, nL25, nL32, nL33, nL39, nL40, nL43, nL44, nL99, nL100, nL120, nL216, nL217, nL218, nL219, nL220, nL221, nL500, nL999, nL1000, nL10000, nL100000, zN_eq, zN_le, zN_lt, qT_lt, qF_lt, qT_le, qF_le, qT_eq, qF_eq, ↓reduceIte, and_true, true_and, false_and, and_false, not_true_eq_false, not_false_eq_true, decide_true, decide_false, Bool.true_or, Bool.or_true, Bool.false_or, Bool.or_false, cond_true, cond_false, qbi, qb1, qb0, nL65, b1, b2, n_takeF, e0, g0, g1]
      · simp (disch := omega) only [s_X8_readWalker_0, s_X8_readWalker_1, s_X8_readWalker_4, s_X8_readWalker_6, s_X8_readWalker_7, s_X8_readWalker_8, s_X8_readWalker_9, s_X8_readWalker_10, s_X8_readWalker_13, s_X8_readWalker_16, s_X8_readWalker_17, s_X8_readWalker_18, s_X8_readWalker_21, s_X8_readWalker_22, s_X8_readWalker_23, s_X8_readWalker_25, s_X8_readWalker_28, s_X8_readWalker_29, s_X8_readWalker_32, s_X8_readWalker_33, s_X8_readWalker_36, s_X8_readWalker_39, s_X8_readWalker_40, s_X8_readWalker_43, s_X8_readWalker_44, s_X8_readWalker_47, s_X8_readWalker_48, ↓mg0, ↓mg1, ↓mg2, ↓mg3, ↓mg4, ↓mg5, ↓mg6, ↓mg7, ↓mg8, ↓mg9, ↓mg10, ↓mg11, ↓mg12, ↓mg13, ↓mg14, ↓mp0, ↓mp5, ↓mp11, ↓mp12, ↓mp13, ↓mp14, ↓ml1, ↓ml2, ↓ml3, ↓ml4, ↓ml5, ↓ml7, ↓ml8, ↓ml9, ↓mlr, ↓mt1, ↓mt2, ↓mt3, ↓mt4, ↓mt5, ↓mt7, ↓mt8, ↓mt9, ↓mlz, ↓mtz, mm_i, cond_true, cond_false, qAv, qAn, zN_neg1, nL0, nL1, nL2, nL3, nL4, nL5, nL6, nL7, nL8, nL9, nL10, nL11, nL12, nL13, nL14, nL20, nL21, nL22, nL23, nL25, nL32, nL33, nL39, nL40, nL43, nL44, nL99, nL100, nL120, nL216, nL217, nL218, nL219, nL220, nL221, nL500, nL999, nL1000, nL10000, nL100000, zN_eq, zN_le, zN_lt, qT_lt, qF_lt, qT_le, qF_le, qT_eq, qF_eq, ↓reduceIte, and_true, true_and, false_and, and_false, not_true_eq_false, not_false_eq_true, decide_true, decide_false, Bool.true_or, Bool.or_true, Bool.false_or, Bool.or_false, cond_true, cond_false, qbi, qb1, qb0, nL65, b1, b2, n_takeF, e0, g0, g1]
theorem go_eq {cz : Nat} (w1 : pwW) : nz + 0 * (1 - cz) = nz := by rw [Nat.zero_mul]; rfl
theorem n_rdS (h : rdR sc Rq Fq Aq) (hi2 : iq ≤ Fq.1.length) : ∃ R1, rdR sc R1 Fq (rdC carry Fq.1 115 iq nz Aq).2.2 ∧ pwX so 180 0 [some (.ref bq), none, none, none, none] [] g (mkM bq (rdS sc iq 1 nz) Rq w) = some (.inl none, g, (mkM bq (rdS sc (rdC carry Fq.1 115 iq nz Aq).1.2 (rdC carry Fq.1 115 iq nz Aq).1.1 (rdC carry Fq.1 115 iq nz Aq).2.1) R1 w)) := by
  have hT := rdR_t h
  have hI := h.2.1
  have hz := h.2.2
  have h4 := hI.1
  have t2 := hT.2.1
  have er : rdC carry Fq.1 115 iq nz Aq = rdE carry 115 ((dgB 48 1 6 Fq.1 (dtB 48 0 20 Fq.1 (dtB 48 1 20 Fq.1 (dtB 48 2 20 Fq.1 (1, iq)).2).2).2).2, upd (upd (upd (upd (fun _ => 0) 0 (zN (dtB 48 2 20 Fq.1 (1, iq)).1)) 1 (zN (dtB 48 1 20 Fq.1 (dtB 48 2 20 Fq.1 (1, iq)).2).1)) 2 (zN (dtB 48 0 20 Fq.1 (dtB 48 1 20 Fq.1 (dtB 48 2 20 Fq.1 (1, iq)).2).2).1)) 3 (zN (dgB 48 1 6 Fq.1 (dtB 48 0 20 Fq.1 (dtB 48 1 20 Fq.1 (dtB 48 2 20 Fq.1 (1, iq)).2).2).2).1)) nz Aq := by
    unfold rdC
    rw [show rwN (ltI 115) / 3 = 4 by decide, rdF_s, rdF_s, rdF_s, rdF_s, rdF_0]
    rw [rn_T (cq := 115) (nq := 0) 2 20 (by decide) (by decide) (by decide) (by decide)]
    rw [rn_T (cq := 115) (nq := 1) 1 20 (by decide) (by decide) (by decide) (by decide)]
    rw [rn_T (cq := 115) (nq := 2) 0 20 (by decide) (by decide) (by decide) (by decide)]
    rw [rn_1 (cq := 115) (nq := 3) 48 1 6 (by decide) (by decide) (by decide) (by decide)]
  rw [er]
  have k1 := @dtB_ok 48 2 20 Fq.1 (1, iq) (Nat.le_refl _) hi2 (by decide) (by decide)
  have a1 := n_two (so := so) (g := g) (bq := bq) (w := w) (iq := iq) (bz := 1) (nz := nz) (lo := 2) (hi := 20) hT (Nat.le_refl _) hi2 (by decide) (by decide)
  generalize dtB 48 2 20 Fq.1 (1, iq) = r1 at k1 a1
  obtain ⟨v1, b1, i1⟩ := r1
  dsimp only at k1 a1 ⊢
  have k2 := @dtB_ok 48 1 20 Fq.1 (b1, i1) k1.2.2.1 k1.2.2.2 (by decide) (by decide)
  have a2 := n_two (so := so) (g := g) (bq := bq) (w := w) (iq := i1) (bz := b1) (nz := nz) (lo := 1) (hi := 20) hT k1.2.2.1 k1.2.2.2 (by decide) (by decide)
  generalize dtB 48 1 20 Fq.1 (b1, i1) = r2 at k2 a2
  obtain ⟨v2, b2, i2⟩ := r2
  dsimp only at k2 a2 ⊢
  have k3 := @dtB_ok 48 0 20 Fq.1 (b2, i2) k2.2.2.1 k2.2.2.2 (by decide) (by decide)
  have a3 := n_two (so := so) (g := g) (bq := bq) (w := w) (iq := i2) (bz := b2) (nz := nz) (lo := 0) (hi := 20) hT k2.2.2.1 k2.2.2.2 (by decide) (by decide)
  generalize dtB 48 0 20 Fq.1 (b2, i2) = r3 at k3 a3
  obtain ⟨v3, b3, i3⟩ := r3
  dsimp only at k3 a3 ⊢
  have k5 := @dgB_ok 48 1 6 Fq.1 (b3, i3) k3.2.2.1 k3.2.2.2 (by decide)
  have a5 := n_digit (so := so) (g := g) (bq := bq) (w := w) (iq := i3) (bz := b3) (nz := nz) (lo := 1) (hi := 6) hT k3.2.2.1 k3.2.2.2 (by decide) (by decide)
  generalize dgB 48 1 6 Fq.1 (b3, i3) = r5 at k5 a5
  obtain ⟨v5, b5, i5⟩ := r5
  dsimp only at k5 a5 ⊢
  have c1 := o_canS (so := so) (g := g) (bq := bq) (sc := rdS sc i5 b5 nz) (Rq := Rq) (w := w) (jr := 3) (by decide) (by decide) hI hz
  have ec : carry 115 (upd (upd (upd (upd (fun _ => 0) 0 (zN v1)) 1 (zN v2)) 2 (zN v3)) 3 (zN v5)) Aq = (qI (tyS Aq (zN v1) (zN v2) (zN v3) (zN v5)), aS Aq (zN v1) (zN v2) (zN v3) (zN v5)) := rfl
  have ok : okLd (zN v1) (zN v2) (zN v3) (zN v5) := by unfold okLd; rw [zN_toInt (by omega), zN_toInt (by omega), zN_toInt (by omega), zN_toInt (by omega)]; omega
  rcases cs_01 k5.2.2.1 with rfl | rfl
  · rw [rdE_F]
    refine ⟨Rq, h, ?_⟩
    dsimp only
    by_cases h5 : tN Aq 0 < 4 ∧ (tL Aq 0).length = 0
    · rw [if_pos h5] at c1
      have g1 := @n_goes so g bq w sc Rq i5 0 nz 1 (Or.inl rfl) (Or.inr rfl)
      rw [go_eq w] at g1
      simp (disch := omega) only [s_X8_readStreet_0, s_X8_readStreet_1, s_X8_readStreet_2, s_X8_readStreet_4, s_X8_readStreet_7, s_X8_readStreet_8, s_X8_readStreet_9, s_X8_readStreet_10, s_X8_readStreet_12, s_X8_readStreet_15, s_X8_readStreet_16, s_X8_readStreet_17, s_X8_readStreet_18, s_X8_readStreet_20, s_X8_readStreet_23, s_X8_readStreet_24, s_X8_readStreet_25, s_X8_readStreet_26, s_X8_readStreet_28, s_X8_readStreet_31, s_X8_readStreet_33, s_X8_readStreet_34, s_X8_readStreet_35, s_X8_readStreet_38, s_X8_readStreet_41, s_X8_readStreet_44, s_X8_readStreet_47, s_X8_readStreet_48, s_X8_readStreet_51, s_X8_readStreet_52, s_X8_readStreet_53, s_X8_readStreet_54, s_X8_readStreet_56, s_X8_readStreet_59, s_X8_readStreet_60, ↓mg0, ↓mg1, ↓mg2, ↓mg3, ↓mg4, ↓mg5, ↓mg6, ↓mg7, ↓mg8, ↓mg9, ↓mg10, ↓mg11, ↓mg12, ↓mg13, ↓mg14, ↓mp0, ↓mp5, ↓mp11, ↓mp12, ↓mp13, ↓mp14, ↓ml1, ↓ml2, ↓ml3, ↓ml4, ↓ml5, ↓ml7, ↓ml8, ↓ml9, ↓mlr, ↓mt1, ↓mt2, ↓mt3, ↓mt4, ↓mt5, ↓mt7, ↓mt8, ↓mt9, ↓mlz, ↓mtz, mm_i, cond_true, cond_false, qAv, qAn, qV_vv, qV_s, qV_n, qU_s, qU_n, zN_neg1, nL0, nL1, nL2, nL3, nL4, nL5, nL6, nL7, nL8, nL9, nL10, nL11, nL12, nL13, nL14, nL20, nL21, nL22, nL23, nL25, nL32, nL33, nL39, nL40, nL43, nL44, nL99, nL100, nL120, nL216, nL217, nL218, nL219, nL220, nL221, nL500, nL999, nL1000, nL10000, nL100000, sh33, zN_lt, zN_le, zN_eq, zN_ge0, zN_lt0, zN_nm, zN_mn, zN_mlt, zN_ltm, zN_lem, zN_mle, zN_m1, zN_m2, zN_addm, zN_ofNat, zN_beq, zN_add, zN_sub, zN_mul, zN_rem, qT_lt, qF_lt, qT_le, qF_le, qT_eq, qF_eq, ↓reduceIte, and_true, true_and, false_and, and_false, not_true_eq_false, not_false_eq_true, decide_true, decide_false, Bool.true_or, Bool.or_true, Bool.false_or, Bool.or_false, cond_true, cond_false, qbi, qb1, qb0, a1, a2, a3, a5, c1, g1, Nat.zero_mul]
    · rw [if_neg h5] at c1
      have g1 := @n_goes so g bq w sc Rq i5 0 nz 0 (Or.inl rfl) (Or.inl rfl)
      rw [go_eq w] at g1
      simp (disch := omega) only [s_X8_readStreet_0, s_X8_readStreet_1, s_X8_readStreet_2, s_X8_readStreet_4, s_X8_readStreet_7, s_X8_readStreet_8, s_X8_readStreet_9, s_X8_readStreet_10, s_X8_readStreet_12, s_X8_readStreet_15, s_X8_readStreet_16, s_X8_readStreet_17, s_X8_readStreet_18, s_X8_readStreet_20, s_X8_readStreet_23, s_X8_readStreet_24, s_X8_readStreet_25, s_X8_readStreet_26, s_X8_readStreet_28, s_X8_readStreet_31, s_X8_readStreet_33, s_X8_readStreet_34, s_X8_readStreet_35, s_X8_readStreet_38, s_X8_readStreet_41, s_X8_readStreet_44, s_X8_readStreet_47, s_X8_readStreet_48, s_X8_readStreet_51, s_X8_readStreet_52, s_X8_readStreet_53, s_X8_readStreet_54, s_X8_readStreet_56, s_X8_readStreet_59, s_X8_readStreet_60, ↓mg0, ↓mg1, ↓mg2, ↓mg3, ↓mg4, ↓mg5, ↓mg6, ↓mg7, ↓mg8, ↓mg9, ↓mg10, ↓mg11, ↓mg12, ↓mg13, ↓mg14, ↓mp0, ↓mp5, ↓mp11, ↓mp12, ↓mp13, ↓mp14, ↓ml1, ↓ml2, ↓ml3, ↓ml4, ↓ml5, ↓ml7, ↓ml8, ↓ml9, ↓mlr, ↓mt1, ↓mt2, ↓mt3, ↓mt4, ↓mt5, ↓mt7, ↓mt8, ↓mt9, ↓mlz, ↓mtz, mm_i, cond_true, cond_false, qAv, qAn, qV_vv, qV_s, qV_n, qU_s, qU_n, zN_neg1, nL0, nL1, nL2, nL3, nL4, nL5, nL6, nL7, nL8, nL9, nL10, nL11, nL12, nL13, nL14, nL20, nL21, nL22, nL23, nL25, nL32, nL33, nL39, nL40, nL43, nL44, nL99, nL100, nL120, nL216, nL217, nL218, nL219, nL220, nL221, nL500, nL999, nL1000, nL10000, nL100000, sh33, zN_lt, zN_le, zN_eq, zN_ge0, zN_lt0, zN_nm, zN_mn, zN_mlt, zN_ltm, zN_lem, zN_mle, zN_m1, zN_m2, zN_addm, zN_ofNat, zN_beq, zN_add, zN_sub, zN_mul, zN_rem, qT_lt, qF_lt, qT_le, qF_le, qT_eq, qF_eq, ↓reduceIte, and_true, true_and, false_and, and_false, not_true_eq_false, not_false_eq_true, decide_true, decide_false, Bool.true_or, Bool.or_true, Bool.false_or, Bool.or_false, cond_true, cond_false, qbi, qb1, qb0, a1, a2, a3, a5, c1, g1, Nat.zero_mul]
  · rw [rdE_T, ec]
    dsimp only
    by_cases h5 : tN Aq 0 < 4 ∧ (tL Aq 0).length = 0
    · rw [qI_T (Pq := tyS Aq (zN v1) (zN v2) (zN v3) (zN v5)) ⟨ok, h5⟩, if_neg n10_, show aS Aq (zN v1) (zN v2) (zN v3) (zN v5) = tAdd Aq (un (zN v1)) (un (zN v2)) (un (zN v3)) (un (zN v5)) from if_pos ⟨ok, h5⟩, un_zN (by omega), un_zN (by omega), un_zN (by omega), un_zN (by omega)]
      rw [if_pos h5] at c1
      have g1 := @n_goes so g bq w sc Rq i5 1 nz 1 (Or.inr rfl) (Or.inr rfl)
      rw [show 1 * 1 = 1 from rfl, show nz + 1 * (1 - 1) = nz from rfl] at g1
      obtain ⟨f1, d1, d2⟩ := n_goStreet (so := so) (g := g) (aq := bq + 3) (fq := Rq 3) (w := mkM bq (rdS sc i5 1 nz) Rq w) (Aq := Aq) (c1 := v1) (c2 := v2) (c3 := v3) (c5 := v5) hI hz h5.1
      rw [mr_in (by decide) (by decide), mr_out (by decide) (by decide)] at d2
      refine ⟨va_up Rq 3 f1, rdR_f h (inv_Add hI h5.1 (List.eq_nil_of_length_eq_zero h5.2) (by omega) (by omega) (by omega) (by omega)) d1, ?_⟩
      simp (disch := omega) only [s_X8_readStreet_0, s_X8_readStreet_1, s_X8_readStreet_2, s_X8_readStreet_4, s_X8_readStreet_7, s_X8_readStreet_8, s_X8_readStreet_9, s_X8_readStreet_10, s_X8_readStreet_12, s_X8_readStreet_15, s_X8_readStreet_16, s_X8_readStreet_17, s_X8_readStreet_18, s_X8_readStreet_20, s_X8_readStreet_23, s_X8_readStreet_24, s_X8_readStreet_25, s_X8_readStreet_26, s_X8_readStreet_28, s_X8_readStreet_31, s_X8_readStreet_33, s_X8_readStreet_34, s_X8_readStreet_35, s_X8_readStreet_38, s_X8_readStreet_41, s_X8_readStreet_44, s_X8_readStreet_47, s_X8_readStreet_48, s_X8_readStreet_51, s_X8_readStreet_52, s_X8_readStreet_53, s_X8_readStreet_54, s_X8_readStreet_56, s_X8_readStreet_59, s_X8_readStreet_60, ↓mg0, ↓mg1, ↓mg2, ↓mg3, ↓mg4, ↓mg5, ↓mg6, ↓mg7, ↓mg8, ↓mg9, ↓mg10, ↓mg11, ↓mg12, ↓mg13, ↓mg14, ↓mp0, ↓mp5, ↓mp11, ↓mp12, ↓mp13, ↓mp14, ↓ml1, ↓ml2, ↓ml3, ↓ml4, ↓ml5, ↓ml7, ↓ml8, ↓ml9, ↓mlr, ↓mt1, ↓mt2, ↓mt3, ↓mt4, ↓mt5, ↓mt7, ↓mt8, ↓mt9, ↓mlz, ↓mtz, mm_i, cond_true, cond_false, qAv, qAn, qV_vv, qV_s, qV_n, qU_s, qU_n, zN_neg1, nL0, nL1, nL2, nL3, nL4, nL5, nL6, nL7, nL8, nL9, nL10, nL11, nL12, nL13, nL14, nL20, nL21, nL22, nL23, nL25, nL32, nL33, nL39, nL40, nL43, nL44, nL99, nL100, nL120, nL216, nL217, nL218, nL219, nL220, nL221, nL500, nL999, nL1000, nL10000, nL100000, sh33, zN_lt, zN_le, zN_eq, zN_ge0, zN_lt0, zN_nm, zN_mn, zN_mlt, zN_ltm, zN_lem, zN_mle, zN_m1, zN_m2, zN_addm, zN_ofNat, zN_beq, zN_add, zN_sub, zN_mul, zN_rem, qT_lt, qF_lt, qT_le, qF_le, qT_eq, qF_eq, ↓reduceIte, and_true, true_and, false_and, and_false, not_true_eq_false, not_false_eq_true, decide_true, decide_false, Bool.true_or, Bool.or_true, Bool.false_or, Bool.or_false, cond_true, cond_false, qbi, qb1, qb0, a1, a2, a3, a5, c1, g1, d2]
    · rw [qI_F (Pq := tyS Aq (zN v1) (zN v2) (zN v3) (zN v5)) (fun hh => h5 hh.2), if_pos rfl, show aS Aq (zN v1) (zN v2) (zN v3) (zN v5) = Aq from if_neg (fun hh => h5 hh.2)]
      rw [if_neg h5] at c1
      have g1 := @n_goes so g bq w sc Rq i5 1 nz 0 (Or.inr rfl) (Or.inl rfl)
      rw [show 1 * 0 = 0 from rfl, show nz + 1 * (1 - 0) = nz + 1 from rfl] at g1
      refine ⟨Rq, h, ?_⟩
      simp (disch := omega) only [s_X8_readStreet_0, s_X8_readStreet_1, s_X8_readStreet_2, s_X8_readStreet_4, s_X8_readStreet_7, s_X8_readStreet_8, s_X8_readStreet_9, s_X8_readStreet_10, s_X8_readStreet_12, s_X8_readStreet_15, s_X8_readStreet_16, s_X8_readStreet_17, s_X8_readStreet_18, s_X8_readStreet_20, s_X8_readStreet_23, s_X8_readStreet_24, s_X8_readStreet_25, s_X8_readStreet_26, s_X8_readStreet_28, s_X8_readStreet_31, s_X8_readStreet_33, s_X8_readStreet_34, s_X8_readStreet_35, s_X8_readStreet_38, s_X8_readStreet_41, s_X8_readStreet_44, s_X8_readStreet_47, s_X8_readStreet_48, s_X8_readStreet_51, s_X8_readStreet_52, s_X8_readStreet_53, s_X8_readStreet_54, s_X8_readStreet_56, s_X8_readStreet_59, s_X8_readStreet_60, ↓mg0, ↓mg1, ↓mg2, ↓mg3, ↓mg4, ↓mg5, ↓mg6, ↓mg7, ↓mg8, ↓mg9, ↓mg10, ↓mg11, ↓mg12, ↓mg13, ↓mg14, ↓mp0, ↓mp5, ↓mp11, ↓mp12, ↓mp13, ↓mp14, ↓ml1, ↓ml2, ↓ml3, ↓ml4, ↓ml5, ↓ml7, ↓ml8, ↓ml9, ↓mlr, ↓mt1, ↓mt2, ↓mt3, ↓mt4, ↓mt5, ↓mt7, ↓mt8, ↓mt9, ↓mlz, ↓mtz, mm_i, cond_true, cond_false, qAv, qAn, qV_vv, qV_s, qV_n, qU_s, qU_n, zN_neg1, nL0, nL1, nL2, nL3, nL4, nL5, nL6, nL7, nL8, nL9, nL10, nL11, nL12, nL13, nL14, nL20, nL21, nL22, nL23, nL25, nL32, nL33, nL39, nL40, nL43, nL44, nL99, nL100, nL120, nL216, nL217, nL218, nL219, nL220, nL221, nL500, nL999, nL1000, nL10000, nL100000, sh33, zN_lt, zN_le, zN_eq, zN_ge0, zN_lt0, zN_nm, zN_mn, zN_mlt, zN_ltm, zN_lem, zN_mle, zN_m1, zN_m2, zN_addm, zN_ofNat, zN_beq, zN_add, zN_sub, zN_mul, zN_rem, qT_lt, qF_lt, qT_le, qF_le, qT_eq, qF_eq, ↓reduceIte, and_true, true_and, false_and, and_false, not_true_eq_false, not_false_eq_true, decide_true, decide_false, Bool.true_or, Bool.or_true, Bool.false_or, Bool.or_false, cond_true, cond_false, qbi, qb1, qb0, a1, a2, a3, a5, c1, g1]
end QA

/-! the pure part: the model reads a text: signs and numbers -/
def dgB (bs lo hi : Nat) (tx : List Nat) (st : Nat × Nat) : Nat × (Nat × Nat) := if st.1 = 1 ∧ st.2 < tx.length ∧ bs + lo ≤ tx.getD st.2 0 ∧ tx.getD st.2 0 ≤ bs + hi then (tx.getD st.2 0 - bs, (1, st.2 + 1)) else (lo, (0, st.2))
def dg2 (bs lo hi : Nat) (tx : List Nat) (aq : Nat × (Nat × Nat)) : Nat × (Nat × Nat) := (10 * aq.1 + (dgB bs (if aq.1 = lo / 10 then lo % 10 else 0) (if aq.1 = hi / 10 then hi % 10 else 9) tx aq.2).1, (dgB bs (if aq.1 = lo / 10 then lo % 10 else 0) (if aq.1 = hi / 10 then hi % 10 else 9) tx aq.2).2)
def dtB (bs lo hi : Nat) (tx : List Nat) (st : Nat × Nat) : Nat × (Nat × Nat) := dg2 bs lo hi tx (dgB bs (lo / 10) (hi / 10) tx st)
def rdNum (tx : List Nat) (cq nq : Nat) (st : Nat × Nat) : Nat × (Nat × Nat) := if rwV (ltI cq) (3 * nq) = 2 then dtB (bsN cq) (rwV (ltI cq) (3 * nq + 1)) (rwV (ltI cq) (3 * nq + 2)) tx st else dgB (bsN cq) (rwV (ltI cq) (3 * nq + 1)) (rwV (ltI cq) (3 * nq + 2)) tx st
def rdF (tx : List Nat) (cq : Nat) : Nat → Nat → Nat × Nat → (Nat → Int32) → (Nat × Nat) × (Nat → Int32)
  | 0, _, st, fz => (st, fz)
  | mq + 1, nq, st, fz => rdF tx cq mq (nq + 1) (rdNum tx cq nq st).2 (upd fz nq (zN (rdNum tx cq nq st).1))
theorem dgB_bad {bs lo hi : Nat} {tx : List Nat} {iq : Nat} : dgB bs lo hi tx (0, iq) = (lo, (0, iq)) := if_neg (fun hh => absurd hh.1 (show ¬ ((0 : Nat) = 1) by decide))
theorem dgB_T {bs lo hi : Nat} {tx : List Nat} {iq : Nat} (h : iq < tx.length ∧ bs + lo ≤ tx.getD iq 0 ∧ tx.getD iq 0 ≤ bs + hi) : dgB bs lo hi tx (1, iq) = (tx.getD iq 0 - bs, (1, iq + 1)) := if_pos ⟨rfl, h⟩
theorem dgB_F {bs lo hi : Nat} {tx : List Nat} {iq : Nat} (h : ¬ (iq < tx.length ∧ bs + lo ≤ tx.getD iq 0 ∧ tx.getD iq 0 ≤ bs + hi)) : dgB bs lo hi tx (1, iq) = (lo, (0, iq)) := if_neg (fun hh => h hh.2)
theorem dgB_ok {bs lo hi : Nat} {tx : List Nat} {st : Nat × Nat} (hb : st.1 ≤ 1) (hi2 : st.2 ≤ tx.length) (hl : lo ≤ hi) : (dgB bs lo hi tx st).1 ≤ hi ∧ lo ≤ (dgB bs lo hi tx st).1 ∧ (dgB bs lo hi tx st).2.1 ≤ 1 ∧ (dgB bs lo hi tx st).2.2 ≤ tx.length := by
  unfold dgB
  by_cases h : st.1 = 1 ∧ st.2 < tx.length ∧ bs + lo ≤ tx.getD st.2 0 ∧ tx.getD st.2 0 ≤ bs + hi
  · rw [if_pos h]
    dsimp only
    omega
  · rw [if_neg h]
    dsimp only
    omega
theorem dtB_ok {bs lo hi : Nat} {tx : List Nat} {st : Nat × Nat} (hb : st.1 ≤ 1) (hi2 : st.2 ≤ tx.length) (hl : lo ≤ hi) (h99 : hi ≤ 99) : (dtB bs lo hi tx st).1 ≤ hi ∧ lo ≤ (dtB bs lo hi tx st).1 ∧ (dtB bs lo hi tx st).2.1 ≤ 1 ∧ (dtB bs lo hi tx st).2.2 ≤ tx.length := by
  unfold dtB
  have h1 := @dgB_ok bs (lo / 10) (hi / 10) tx st hb hi2 (by omega)
  generalize dgB bs (lo / 10) (hi / 10) tx st = aq at h1
  obtain ⟨a1, b1, i1⟩ := aq
  dsimp only at h1
  unfold dg2
  dsimp only
  have h2 := @dgB_ok bs (if a1 = lo / 10 then lo % 10 else 0) (if a1 = hi / 10 then hi % 10 else 9) tx (b1, i1) h1.2.2.1 h1.2.2.2 (by split <;> split <;> omega)
  refine ⟨?_, ?_, h2.2.2.1, h2.2.2.2⟩
  · have h3 := h2.1
    by_cases h4 : a1 = hi / 10
    · rw [if_pos h4] at h3 ⊢
      omega
    · rw [if_neg h4] at h3 ⊢
      omega
  · have h3 := h2.2.1
    by_cases h4 : a1 = lo / 10
    · rw [if_pos h4] at h3 ⊢
      omega
    · rw [if_neg h4] at h3 ⊢
      omega
def rdS (sc : Nat → Int32) (iq bz kq : Nat) : Nat → Int32 := upd (upd (upd sc 12 (zN iq)) 13 (zN bz)) 14 (zN kq)
theorem d48_ : ∀ c9 : Fin 256, (zN c9.1 - zN 48).toInt = (c9.1 : Int) - 48 := by decide +kernel
theorem d65_ : ∀ c9 : Fin 256, (zN c9.1 - zN 65).toInt = (c9.1 : Int) - 65 := by decide +kernel
section QA
variable {so : Nat → Nat} {g : pwG} {bq : Nat} {w : pwW} {Fq : FS} {pq kq rq tq uq vq : Int32} {Aq Bq : TA} {sc s1 : Nat → Int32} {Rq R1 : Nat → Nat → Int32} {fq hq : Nat → Int32} {iq bz nz lo hi : Nat} {tx : List Nat}
theorem rd_11 : rdS sc iq bz nz 11 = sc 11 := rfl
theorem rd_12 : rdS sc iq bz nz 12 = zN iq := rfl
theorem rd_13 : rdS sc iq bz nz 13 = zN bz := rfl
theorem rd_14 : rdS sc iq bz nz 14 = zN nz := rfl
theorem ru_12 {jq : Nat} : upd (rdS sc iq bz nz) 12 (zN jq) = rdS sc jq bz nz := by
  funext aq; unfold rdS upd
  by_cases h1 : aq = 12
  · subst h1; rfl
  · by_cases h2 : aq = 13
    · subst h2; rfl
    · by_cases h3 : aq = 14
      · subst h3; rfl
      · rw [if_neg h1, if_neg h3, if_neg h2, if_neg h1, if_neg h3, if_neg h2, if_neg h1]
theorem ru_13 {jq : Nat} : upd (rdS sc iq bz nz) 13 (zN jq) = rdS sc iq jq nz := by
  funext aq; unfold rdS upd
  by_cases h1 : aq = 13
  · subst h1; rfl
  · by_cases h2 : aq = 12
    · subst h2; rfl
    · by_cases h3 : aq = 14
      · subst h3; rfl
      · simp only [if_neg h1, if_neg h2, if_neg h3]
theorem ru_14 {jq : Nat} : upd (rdS sc iq bz nz) 14 (zN jq) = rdS sc iq bz jq := by
  funext aq; unfold rdS upd
  by_cases h1 : aq = 14
  · subst h1; rfl
  · rw [if_neg h1, if_neg h1, if_neg h1]
def txR (sc : Nat → Int32) (Rq : Nat → Nat → Int32) (tx : List Nat) : Prop := sc 11 = zN tx.length ∧ tx.length ≤ 120 ∧ (∀ cq ∈ tx, cq ≤ 255) ∧ lsM 0 tx (Rq 9)
theorem tx_le (hT : txR sc Rq tx) : tx.getD iq 0 ≤ 255 := by
  rw [List.getD_eq_getElem?_getD]
  cases h : tx[iq]? with
  | none => exact Nat.zero_le _
  | some c9 => exact hT.2.2.1 c9 (List.mem_of_getElem? h)
theorem n_hereT (hT : txR sc Rq tx) (h : iq < tx.length) : pwX so 174 0 [some (.ref bq)] [] g (mkM bq (rdS sc iq bz nz) Rq w) = some (.inl (some (.int (zN (tx.getD iq 0)))), g, (mkM bq (rdS sc iq bz nz) Rq w)) := by
  obtain ⟨t1, t2, t3, t4⟩ := hT
  have h2 := t4 iq _ (List.getElem?_eq_getElem h)
  rw [Nat.zero_add] at h2
  rw [List.getD_eq_getElem?_getD, List.getElem?_eq_getElem h, Option.getD_some]
  simp (disch := omega) only [s_X8_here_0, s_X8_here_1, s_X8_here_4, s_X8_here_5, s_X8_here_8, s_X8_here_11, s_X8_here_12, s_X8_here_15, s_X8_here_16, s_X8_here_19, s_X8_here_20, s_X8_here_23, s_X8_here_24, ↓mg0, ↓mg1, ↓mg2, ↓mg3, ↓mg4, ↓mg5, ↓mg6, ↓mg7, ↓mg8, ↓mg9, ↓mg10, ↓mg11, ↓mg12, ↓mg13, ↓mg14, ↓mp0, ↓mp5, ↓mp11, ↓mp12, ↓mp13, ↓mp14, ↓ml1, ↓ml2, ↓ml3, ↓ml4, ↓ml5, ↓ml7, ↓ml8, ↓ml9, ↓mlr, ↓mt1, ↓mt2, ↓mt3, ↓mt4, ↓mt5, ↓mt7, ↓mt8, ↓mt9, ↓mlz, ↓mtz, mm_i, cond_true, cond_false, qAv, qAn, qV_vv, qV_s, qV_n, qU_s, qU_n, zN_neg1, nL0, nL1, nL2, nL3, nL4, nL5, nL6, nL7, nL8, nL9, nL10, nL11, nL12, nL13, nL14, nL20, nL21, nL22, nL23, nL25, nL32, nL33, nL39, nL40, nL43, nL44, nL99, nL100, nL120, nL216, nL217, nL218, nL219, nL220, nL221, nL500, nL999, nL1000, nL10000, nL100000, sh33, zN_lt, zN_le, zN_eq, zN_ge0, zN_lt0, zN_nm, zN_mn, zN_mlt, zN_ltm, zN_lem, zN_mle, zN_m1, zN_m2, zN_addm, zN_ofNat, zN_beq, zN_add, zN_sub, zN_mul, zN_rem, qT_lt, qF_lt, qT_le, qF_le, qT_eq, qF_eq, ↓reduceIte, and_true, true_and, false_and, and_false, not_true_eq_false, not_false_eq_true, decide_true, decide_false, Bool.true_or, Bool.or_true, Bool.false_or, Bool.or_false, cond_true, cond_false, rd_11, rd_12, t1, h2]
theorem n_hereF (hT : txR sc Rq tx) (h : tx.length ≤ iq) (h2 : iq < 2147483648) : pwX so 174 0 [some (.ref bq)] [] g (mkM bq (rdS sc iq bz nz) Rq w) = some (.inl (some (.int (zM))), g, (mkM bq (rdS sc iq bz nz) Rq w)) := by
  obtain ⟨t1, t2, t3, t4⟩ := hT
  simp (disch := omega) only [s_X8_here_0, s_X8_here_1, s_X8_here_4, s_X8_here_5, s_X8_here_8, s_X8_here_11, s_X8_here_12, s_X8_here_15, s_X8_here_16, s_X8_here_19, s_X8_here_20, s_X8_here_23, s_X8_here_24, ↓mg0, ↓mg1, ↓mg2, ↓mg3, ↓mg4, ↓mg5, ↓mg6, ↓mg7, ↓mg8, ↓mg9, ↓mg10, ↓mg11, ↓mg12, ↓mg13, ↓mg14, ↓mp0, ↓mp5, ↓mp11, ↓mp12, ↓mp13, ↓mp14, ↓ml1, ↓ml2, ↓ml3, ↓ml4, ↓ml5, ↓ml7, ↓ml8, ↓ml9, ↓mlr, ↓mt1, ↓mt2, ↓mt3, ↓mt4, ↓mt5, ↓mt7, ↓mt8, ↓mt9, ↓mlz, ↓mtz, mm_i, cond_true, cond_false, qAv, qAn, qV_vv, qV_s, qV_n, qU_s, qU_n, zN_neg1, nL0, nL1, nL2, nL3, nL4, nL5, nL6, nL7, nL8, nL9, nL10, nL11, nL12, nL13, nL14, nL20, nL21, nL22, nL23, nL25, nL32, nL33, nL39, nL40, nL43, nL44, nL99, nL100, nL120, nL216, nL217, nL218, nL219, nL220, nL221, nL500, nL999, nL1000, nL10000, nL100000, sh33, zN_lt, zN_le, zN_eq, zN_ge0, zN_lt0, zN_nm, zN_mn, zN_mlt, zN_ltm, zN_lem, zN_mle, zN_m1, zN_m2, zN_addm, zN_ofNat, zN_beq, zN_add, zN_sub, zN_mul, zN_rem, qT_lt, qF_lt, qT_le, qF_le, qT_eq, qF_eq, ↓reduceIte, and_true, true_and, false_and, and_false, not_true_eq_false, not_false_eq_true, decide_true, decide_false, Bool.true_or, Bool.or_true, Bool.false_or, Bool.or_false, cond_true, cond_false, rd_11, rd_12, t1]
theorem n_take0 : pwX so 175 0 [some (.ref bq), some (.int vq)] [] g (mkM bq (rdS sc iq 0 nz) Rq w) = some (.inl none, g, (mkM bq (rdS sc iq 0 nz) Rq w)) := by
  simp (disch := omega) only [s_X8_take_0, s_X8_take_1, s_X8_take_2, s_X8_take_5, s_X8_take_8, s_X8_take_9, s_X8_take_12, s_X8_take_13, s_X8_take_16, s_X8_take_17, s_X8_take_20, s_X8_take_21, s_X8_take_22, s_X8_take_25, s_X8_take_26, s_X8_take_29, s_X8_take_32, s_X8_take_33, s_X8_take_36, s_X8_take_37, s_X8_take_38, s_X8_take_41, ↓mg0, ↓mg1, ↓mg2, ↓mg3, ↓mg4, ↓mg5, ↓mg6, ↓mg7, ↓mg8, ↓mg9, ↓mg10, ↓mg11, ↓mg12, ↓mg13, ↓mg14, ↓mp0, ↓mp5, ↓mp11, ↓mp12, ↓mp13, ↓mp14, ↓ml1, ↓ml2, ↓ml3, ↓ml4, ↓ml5, ↓ml7, ↓ml8, ↓ml9, ↓mlr, ↓mt1, ↓mt2, ↓mt3, ↓mt4, ↓mt5, ↓mt7, ↓mt8, ↓mt9, ↓mlz, ↓mtz, mm_i, cond_true, cond_false, qAv, qAn, qV_vv, qV_s, qV_n, qU_s, qU_n, zN_neg1, nL0, nL1, nL2, nL3, nL4, nL5, nL6, nL7, nL8, nL9, nL10, nL11, nL12, nL13, nL14, nL20, nL21, nL22, nL23, nL25, nL32, nL33, nL39, nL40, nL43, nL44, nL99, nL100, nL120, nL216, nL217, nL218, nL219, nL220, nL221, nL500, nL999, nL1000, nL10000, nL100000, sh33, zN_lt, zN_le, zN_eq, zN_ge0, zN_lt0, zN_nm, zN_mn, zN_mlt, zN_ltm, zN_lem, zN_mle, zN_m1, zN_m2, zN_addm, zN_ofNat, zN_beq, zN_add, zN_sub, zN_mul, zN_rem, qT_lt, qF_lt, qT_le, qF_le, qT_eq, qF_eq, ↓reduceIte, and_true, true_and, false_and, and_false, not_true_eq_false, not_false_eq_true, decide_true, decide_false, Bool.true_or, Bool.or_true, Bool.false_or, Bool.or_false, cond_true, cond_false, qbi, qb1, qb0, rd_12, rd_13, ru_12, ru_13]
  rfl
theorem n_takeT : pwX so 175 0 [some (.ref bq), some (.int (zN 1))] [] g (mkM bq (rdS sc iq 1 nz) Rq w) = some (.inl none, g, (mkM bq (rdS sc (iq + 1) 1 nz) Rq w)) := by
  simp (disch := omega) only [s_X8_take_0, s_X8_take_1, s_X8_take_2, s_X8_take_5, s_X8_take_8, s_X8_take_9, s_X8_take_12, s_X8_take_13, s_X8_take_16, s_X8_take_17, s_X8_take_20, s_X8_take_21, s_X8_take_22, s_X8_take_25, s_X8_take_26, s_X8_take_29, s_X8_take_32, s_X8_take_33, s_X8_take_36, s_X8_take_37, s_X8_take_38, s_X8_take_41, ↓mg0, ↓mg1, ↓mg2, ↓mg3, ↓mg4, ↓mg5, ↓mg6, ↓mg7, ↓mg8, ↓mg9, ↓mg10, ↓mg11, ↓mg12, ↓mg13, ↓mg14, ↓mp0, ↓mp5, ↓mp11, ↓mp12, ↓mp13, ↓mp14, ↓ml1, ↓ml2, ↓ml3, ↓ml4, ↓ml5, ↓ml7, ↓ml8, ↓ml9, ↓mlr, ↓mt1, ↓mt2, ↓mt3, ↓mt4, ↓mt5, ↓mt7, ↓mt8, ↓mt9, ↓mlz, ↓mtz, mm_i, cond_true, cond_false, qAv, qAn, qV_vv, qV_s, qV_n, qU_s, qU_n, zN_neg1, nL0, nL1, nL2, nL3, nL4, nL5, nL6, nL7, nL8, nL9, nL10, nL11, nL12, nL13, nL14, nL20, nL21, nL22, nL23, nL25, nL32, nL33, nL39, nL40, nL43, nL44, nL99, nL100, nL120, nL216, nL217, nL218, nL219, nL220, nL221, nL500, nL999, nL1000, nL10000, nL100000, sh33, zN_lt, zN_le, zN_eq, zN_ge0, zN_lt0, zN_nm, zN_mn, zN_mlt, zN_ltm, zN_lem, zN_mle, zN_m1, zN_m2, zN_addm, zN_ofNat, zN_beq, zN_add, zN_sub, zN_mul, zN_rem, qT_lt, qF_lt, qT_le, qF_le, qT_eq, qF_eq, ↓reduceIte, and_true, true_and, false_and, and_false, not_true_eq_false, not_false_eq_true, decide_true, decide_false, Bool.true_or, Bool.or_true, Bool.false_or, Bool.or_false, cond_true, cond_false, qbi, qb1, qb0, rd_12, rd_13, ru_12, ru_13]
theorem n_takeF : pwX so 175 0 [some (.ref bq), some (.int (zN 0))] [] g (mkM bq (rdS sc iq 1 nz) Rq w) = some (.inl none, g, (mkM bq (rdS sc iq 0 nz) Rq w)) := by
  simp (disch := omega) only [s_X8_take_0, s_X8_take_1, s_X8_take_2, s_X8_take_5, s_X8_take_8, s_X8_take_9, s_X8_take_12, s_X8_take_13, s_X8_take_16, s_X8_take_17, s_X8_take_20, s_X8_take_21, s_X8_take_22, s_X8_take_25, s_X8_take_26, s_X8_take_29, s_X8_take_32, s_X8_take_33, s_X8_take_36, s_X8_take_37, s_X8_take_38, s_X8_take_41, ↓mg0, ↓mg1, ↓mg2, ↓mg3, ↓mg4, ↓mg5, ↓mg6, ↓mg7, ↓mg8, ↓mg9, ↓mg10, ↓mg11, ↓mg12, ↓mg13, ↓mg14, ↓mp0, ↓mp5, ↓mp11, ↓mp12, ↓mp13, ↓mp14, ↓ml1, ↓ml2, ↓ml3, ↓ml4, ↓ml5, ↓ml7, ↓ml8, ↓ml9, ↓mlr, ↓mt1, ↓mt2, ↓mt3, ↓mt4, ↓mt5, ↓mt7, ↓mt8, ↓mt9, ↓mlz, ↓mtz, mm_i, cond_true, cond_false, qAv, qAn, qV_vv, qV_s, qV_n, qU_s, qU_n, zN_neg1, nL0, nL1, nL2, nL3, nL4, nL5, nL6, nL7, nL8, nL9, nL10, nL11, nL12, nL13, nL14, nL20, nL21, nL22, nL23, nL25, nL32, nL33, nL39, nL40, nL43, nL44, nL99, nL100, nL120, nL216, nL217, nL218, nL219, nL220, nL221, nL500, nL999, nL1000, nL10000, nL100000, sh33, zN_lt, zN_le, zN_eq, zN_ge0, zN_lt0, zN_nm, zN_mn, zN_mlt, zN_ltm, zN_lem, zN_mle, zN_m1, zN_m2, zN_addm, zN_ofNat, zN_beq, zN_add, zN_sub, zN_mul, zN_rem, qT_lt, qF_lt, qT_le, qF_le, qT_eq, qF_eq, ↓reduceIte, and_true, true_and, false_and, and_false, not_true_eq_false, not_false_eq_true, decide_true, decide_false, Bool.true_or, Bool.or_true, Bool.false_or, Bool.or_false, cond_true, cond_false, qbi, qb1, qb0, rd_12, rd_13, ru_12, ru_13]
  rfl
theorem n_digit (hT : txR sc Rq tx) (hb : bz ≤ 1) (hi2 : iq ≤ tx.length) (hl : lo ≤ hi) (h9 : hi ≤ 9) : pwX so 176 0 [some (.ref bq), some (.int (zN lo)), some (.int (zN hi)), none] [] g (mkM bq (rdS sc iq bz nz) Rq w) = some (.inl (some (.int (zN (dgB 48 lo hi tx (bz, iq)).1))), g, (mkM bq (rdS sc (dgB 48 lo hi tx (bz, iq)).2.2 (dgB 48 lo hi tx (bz, iq)).2.1 nz) Rq w)) := by
  have t2 := hT.2.1
  have hc : bz = 0 ∨ bz = 1 := by omega
  rcases hc with rfl | rfl
  · rw [dgB_bad]
    dsimp only
    by_cases h : iq < tx.length
    · have b1 := fun (w1 : pwW) => @n_hereT so g bq w1 sc Rq iq 0 nz tx hT h
      simp (disch := omega) only [s_X8_digit_0, s_X8_digit_1, s_X8_digit_4, s_X8_digit_6, s_X8_digit_7, s_X8_digit_8, s_X8_digit_9, s_X8_digit_10, s_X8_digit_11, s_X8_digit_12, s_X8_digit_13, s_X8_digit_14, s_X8_digit_15, s_X8_digit_18, s_X8_digit_21, s_X8_digit_22, s_X8_digit_25, s_X8_digit_28, s_X8_digit_29, s_X8_digit_32, s_X8_digit_33, ↓mg0, ↓mg1, ↓mg2, ↓mg3, ↓mg4, ↓mg5, ↓mg6, ↓mg7, ↓mg8, ↓mg9, ↓mg10, ↓mg11, ↓mg12, ↓mg13, ↓mg14, ↓mp0, ↓mp5, ↓mp11, ↓mp12, ↓mp13, ↓mp14, ↓ml1, ↓ml2, ↓ml3, ↓ml4, ↓ml5, ↓ml7, ↓ml8, ↓ml9, ↓mlr, ↓mt1, ↓mt2, ↓mt3, ↓mt4, ↓mt5, ↓mt7, ↓mt8, ↓mt9, ↓mlz, ↓mtz, mm_i, cond_true, cond_false, qAv, qAn, zN_neg1, nL0, nL1, nL2, nL3, nL4, nL5, nL6, nL7, nL8, nL9, nL10, nL11, nL12, nL13, nL14, nL20, nL21, nL22, nL23, nL25, nL32, nL33, nL39, nL40, nL43, nL44, nL99, nL100, nL120, nL216, nL217, nL218, nL219, nL220, nL221, nL500, nL999, nL1000, nL10000, nL100000, nL48, b1, n_in, n_take0, rd_13, zN_eq, qT_lt, qF_lt, qT_le, qF_le, qT_eq, qF_eq, ↓reduceIte, and_true, true_and, false_and, and_false, not_true_eq_false, not_false_eq_true, decide_true, decide_false, Bool.true_or, Bool.or_true, Bool.false_or, Bool.or_false, cond_true, cond_false]
    · have b1 := fun (w1 : pwW) => @n_hereF so g bq w1 sc Rq iq 0 nz tx hT (by omega) (by omega)
      simp (disch := omega) only [s_X8_digit_0, s_X8_digit_1, s_X8_digit_4, s_X8_digit_6, s_X8_digit_7, s_X8_digit_8, s_X8_digit_9, s_X8_digit_10, s_X8_digit_11, s_X8_digit_12, s_X8_digit_13, s_X8_digit_14, s_X8_digit_15, s_X8_digit_18, s_X8_digit_21, s_X8_digit_22, s_X8_digit_25, s_X8_digit_28, s_X8_digit_29, s_X8_digit_32, s_X8_digit_33, ↓mg0, ↓mg1, ↓mg2, ↓mg3, ↓mg4, ↓mg5, ↓mg6, ↓mg7, ↓mg8, ↓mg9, ↓mg10, ↓mg11, ↓mg12, ↓mg13, ↓mg14, ↓mp0, ↓mp5, ↓mp11, ↓mp12, ↓mp13, ↓mp14, ↓ml1, ↓ml2, ↓ml3, ↓ml4, ↓ml5, ↓ml7, ↓ml8, ↓ml9, ↓mlr, ↓mt1, ↓mt2, ↓mt3, ↓mt4, ↓mt5, ↓mt7, ↓mt8, ↓mt9, ↓mlz, ↓mtz, mm_i, cond_true, cond_false, qAv, qAn, zN_neg1, nL0, nL1, nL2, nL3, nL4, nL5, nL6, nL7, nL8, nL9, nL10, nL11, nL12, nL13, nL14, nL20, nL21, nL22, nL23, nL25, nL32, nL33, nL39, nL40, nL43, nL44, nL99, nL100, nL120, nL216, nL217, nL218, nL219, nL220, nL221, nL500, nL999, nL1000, nL10000, nL100000, nL48, b1, n_in, n_take0, rd_13, zN_eq, qT_lt, qF_lt, qT_le, qF_le, qT_eq, qF_eq, ↓reduceIte, and_true, true_and, false_and, and_false, not_true_eq_false, not_false_eq_true, decide_true, decide_false, Bool.true_or, Bool.or_true, Bool.false_or, Bool.or_false, cond_true, cond_false]
  · by_cases h : iq < tx.length
    · have b1 := fun (w1 : pwW) => @n_hereT so g bq w1 sc Rq iq 1 nz tx hT h
      have hle := tx_le (iq := iq) hT
      have hd := d48_ ⟨tx.getD iq 0, by omega⟩
      dsimp only at hd
      by_cases h2 : 48 + lo ≤ tx.getD iq 0 ∧ tx.getD iq 0 ≤ 48 + hi
      · rw [dgB_T ⟨h, h2⟩]
        dsimp only
        have b2 : ∀ {w1 : pwW}, pwX so 133 0 [some (.long ((zN (tx.getD iq 0) - zN 48).toInt64)), none, some (.long ((zN lo).toInt64)), none, some (.long ((zN hi).toInt64)), none] [] g w1 = some (.inl (some (.int (zN 1))), g, w1) := in_T (by rw [i2l, i2l, i2l, hd, zN_toInt (by omega), zN_toInt (by omega)]; omega)
        have b3 : zN (tx.getD iq 0) - zN 48 = zN (tx.getD iq 0 - 48) := zN_sub (by omega)
        simp (disch := omega) only [s_X8_digit_0, s_X8_digit_1, s_X8_digit_4, s_X8_digit_6, s_X8_digit_7, s_X8_digit_8, s_X8_digit_9, s_X8_digit_10, s_X8_digit_11, s_X8_digit_12, s_X8_digit_13, s_X8_digit_14, s_X8_digit_15, s_X8_digit_18, s_X8_digit_21, s_X8_digit_22, s_X8_digit_25, s_X8_digit_28, s_X8_digit_29, s_X8_digit_32, s_X8_digit_33, ↓mg0, ↓mg1, ↓mg2, ↓mg3, ↓mg4, ↓mg5, ↓mg6, ↓mg7, ↓mg8, ↓mg9, ↓mg10, ↓mg11, ↓mg12, ↓mg13, ↓mg14, ↓mp0, ↓mp5, ↓mp11, ↓mp12, ↓mp13, ↓mp14, ↓ml1, ↓ml2, ↓ml3, ↓ml4, ↓ml5, ↓ml7, ↓ml8, ↓ml9, ↓mlr, ↓mt1, ↓mt2, ↓mt3, ↓mt4, ↓mt5, ↓mt7, ↓mt8, ↓mt9, ↓mlz, ↓mtz, mm_i, cond_true, cond_false, qAv, qAn, zN_neg1, nL0, nL1, nL2, nL3, nL4, nL5, nL6, nL7, nL8, nL9, nL10, nL11, nL12, nL13, nL14, nL20, nL21, nL22, nL23, nL25, nL32, nL33, nL39, nL40, nL43, nL44, nL99, nL100, nL120, nL216, nL217, nL218, nL219, nL220, nL221, nL500, nL999, nL1000, nL10000, nL100000, nL48, b1, b2, n_takeT, rd_13, zN_eq, qT_lt, qF_lt, qT_le, qF_le, qT_eq, qF_eq, ↓reduceIte, and_true, true_and, false_and, and_false, not_true_eq_false, not_false_eq_true, decide_true, decide_false, Bool.true_or, Bool.or_true, Bool.false_or, Bool.or_false, cond_true, cond_false]
        rw [b3]
      · rw [dgB_F (fun hh => h2 hh.2)]
        dsimp only
        have b2 : ∀ {w1 : pwW}, pwX so 133 0 [some (.long ((zN (tx.getD iq 0) - zN 48).toInt64)), none, some (.long ((zN lo).toInt64)), none, some (.long ((zN hi).toInt64)), none] [] g w1 = some (.inl (some (.int (zN 0))), g, w1) := in_F (by rw [i2l, i2l, i2l, hd, zN_toInt (by omega), zN_toInt (by omega)]; omega)
        simp (disch := omega) only [s_X8_digit_0, s_X8_digit_1, s_X8_digit_4, s_X8_digit_6, s_X8_digit_7, s_X8_digit_8, s_X8_digit_9, s_X8_digit_10, s_X8_digit_11, s_X8_digit_12, s_X8_digit_13, s_X8_digit_14, s_X8_digit_15, s_X8_digit_18, s_X8_digit_21, s_X8_digit_22, s_X8_digit_25, s_X8_digit_28, s_X8_digit_29, s_X8_digit_32, s_X8_digit_33, ↓mg0, ↓mg1, ↓mg2, ↓mg3, ↓mg4, ↓mg5, ↓mg6, ↓mg7, ↓mg8, ↓mg9, ↓mg10, ↓mg11, ↓mg12, ↓mg13, ↓mg14, ↓mp0, ↓mp5, ↓mp11, ↓mp12, ↓mp13, ↓mp14, ↓ml1, ↓ml2, ↓ml3, ↓ml4, ↓ml5, ↓ml7, ↓ml8, ↓ml9, ↓mlr, ↓mt1, ↓mt2, ↓mt3, ↓mt4, ↓mt5, ↓mt7, ↓mt8, ↓mt9, ↓mlz, ↓mtz, mm_i, cond_true, cond_false, qAv, qAn, zN_neg1, nL0, nL1, nL2, nL3, nL4, nL5, nL6, nL7, nL8, nL9, nL10, nL11, nL12, nL13, nL14, nL20, nL21, nL22, nL23, nL25, nL32, nL33, nL39, nL40, nL43, nL44, nL99, nL100, nL120, nL216, nL217, nL218, nL219, nL220, nL221, nL500, nL999, nL1000, nL10000, nL100000, nL48, b1, b2, n_takeF, rd_13, zN_eq, qT_lt, qF_lt, qT_le, qF_le, qT_eq, qF_eq, ↓reduceIte, and_true, true_and, false_and, and_false, not_true_eq_false, not_false_eq_true, decide_true, decide_false, Bool.true_or, Bool.or_true, Bool.false_or, Bool.or_false, cond_true, cond_false]
    · have b1 := fun (w1 : pwW) => @n_hereF so g bq w1 sc Rq iq 1 nz tx hT (by omega) (by omega)
      rw [dgB_F (fun hh => h hh.1)]
      dsimp only
      have b2 : ∀ {w1 : pwW}, pwX so 133 0 [some (.long ((zM - zN 48).toInt64)), none, some (.long ((zN lo).toInt64)), none, some (.long ((zN hi).toInt64)), none] [] g w1 = some (.inl (some (.int (zN 0))), g, w1) := in_F (by rw [i2l, i2l, i2l, zN_toInt (by omega), zN_toInt (by omega), show (zM - zN 48).toInt = -49 from rfl]; omega)
      simp (disch := omega) only [s_X8_digit_0, s_X8_digit_1, s_X8_digit_4, s_X8_digit_6, s_X8_digit_7, s_X8_digit_8, s_X8_digit_9, s_X8_digit_10, s_X8_digit_11, s_X8_digit_12, s_X8_digit_13, s_X8_digit_14, s_X8_digit_15, s_X8_digit_18, s_X8_digit_21, s_X8_digit_22, s_X8_digit_25, s_X8_digit_28, s_X8_digit_29, s_X8_digit_32, s_X8_digit_33, ↓mg0, ↓mg1, ↓mg2, ↓mg3, ↓mg4, ↓mg5, ↓mg6, ↓mg7, ↓mg8, ↓mg9, ↓mg10, ↓mg11, ↓mg12, ↓mg13, ↓mg14, ↓mp0, ↓mp5, ↓mp11, ↓mp12, ↓mp13, ↓mp14, ↓ml1, ↓ml2, ↓ml3, ↓ml4, ↓ml5, ↓ml7, ↓ml8, ↓ml9, ↓mlr, ↓mt1, ↓mt2, ↓mt3, ↓mt4, ↓mt5, ↓mt7, ↓mt8, ↓mt9, ↓mlz, ↓mtz, mm_i, cond_true, cond_false, qAv, qAn, zN_neg1, nL0, nL1, nL2, nL3, nL4, nL5, nL6, nL7, nL8, nL9, nL10, nL11, nL12, nL13, nL14, nL20, nL21, nL22, nL23, nL25, nL32, nL33, nL39, nL40, nL43, nL44, nL99, nL100, nL120, nL216, nL217, nL218, nL219, nL220, nL221, nL500, nL999, nL1000, nL10000, nL100000, nL48, b1, b2, n_takeF, rd_13, zN_eq, qT_lt, qF_lt, qT_le, qF_le, qT_eq, qF_eq, ↓reduceIte, and_true, true_and, false_and, and_false, not_true_eq_false, not_false_eq_true, decide_true, decide_false, Bool.true_or, Bool.or_true, Bool.false_or, Bool.or_false, cond_true, cond_false]
theorem n_two (hT : txR sc Rq tx) (hb : bz ≤ 1) (hi2 : iq ≤ tx.length) (hl : lo ≤ hi) (h9 : hi ≤ 99) : pwX so 177 0 [some (.ref bq), some (.int (zN lo)), some (.int (zN hi)), none] [] g (mkM bq (rdS sc iq bz nz) Rq w) = some (.inl (some (.int (zN (dtB 48 lo hi tx (bz, iq)).1))), g, (mkM bq (rdS sc (dtB 48 lo hi tx (bz, iq)).2.2 (dtB 48 lo hi tx (bz, iq)).2.1 nz) Rq w)) := by
  have b1 := n_digit (so := so) (g := g) (bq := bq) (w := w) (iq := iq) (bz := bz) (nz := nz) (lo := lo / 10) (hi := hi / 10) hT hb hi2 (by omega) (by omega)
  have h1 := @dgB_ok 48 (lo / 10) (hi / 10) tx (bz, iq) hb hi2 (by omega)
  unfold dtB
  generalize dgB 48 (lo / 10) (hi / 10) tx (bz, iq) = aq at h1 b1
  obtain ⟨a1, x1, i1⟩ := aq
  dsimp only at h1 b1
  obtain ⟨h1, h2, h3, h5⟩ := h1
  have b2 := n_digit (so := so) (g := g) (bq := bq) (w := w) (iq := i1) (bz := x1) (nz := nz) (lo := (if a1 = lo / 10 then lo % 10 else 0)) (hi := (if a1 = hi / 10 then hi % 10 else 9)) hT h3 h5 (by split <;> split <;> omega) (by split <;> omega)
  unfold dg2
  dsimp only
  by_cases e1 : a1 = lo / 10
  · rw [if_pos e1] at b2 ⊢
    by_cases e2 : a1 = hi / 10
    · rw [if_pos e2] at b2 ⊢
      simp (disch := omega) only [s_X8_two_0, s_X8_two_1, s_X8_two_2, s_X8_two_4, s_X8_two_5, s_X8_two_6, s_X8_two_8, s_X8_two_9, s_X8_two_12, s_X8_two_13, s_X8_two_15, s_X8_two_16, s_X8_two_17, s_X8_two_18, s_X8_two_19, s_X8_two_20, s_X8_two_22, s_X8_two_23, s_X8_two_26, s_X8_two_27, s_X8_two_29, s_X8_two_30, s_X8_two_33, s_X8_two_34, s_X8_two_35, s_X8_two_36, s_X8_two_38, s_X8_two_39, s_X8_two_42, s_X8_two_43, s_X8_two_45, s_X8_two_46, s_X8_two_49, s_X8_two_51, s_X8_two_54, s_X8_two_55, ↓mg0, ↓mg1, ↓mg2, ↓mg3, ↓mg4, ↓mg5, ↓mg6, ↓mg7, ↓mg8, ↓mg9, ↓mg10, ↓mg11, ↓mg12, ↓mg13, ↓mg14, ↓mp0, ↓mp5, ↓mp11, ↓mp12, ↓mp13, ↓mp14, ↓ml1, ↓ml2, ↓ml3, ↓ml4, ↓ml5, ↓ml7, ↓ml8, ↓ml9, ↓mlr, ↓mt1, ↓mt2, ↓mt3, ↓mt4, ↓mt5, ↓mt7, ↓mt8, ↓mt9, ↓mlz, ↓mtz, mm_i, cond_true, cond_false, qAv, qAn, qV_vv, qV_s, qV_n, qU_s, qU_n, zN_neg1, nL0, nL1, nL2, nL3, nL4, nL5, nL6, nL7, nL8, nL9, nL10, nL11, nL12, nL13, nL14, nL20, nL21, nL22, nL23, nL25, nL32, nL33, nL39, nL40, nL43, nL44, nL99, nL100, nL120, nL216, nL217, nL218, nL219, nL220, nL221, nL500, nL999, nL1000, nL10000, nL100000, sh33, zN_lt, zN_le, zN_eq, zN_ge0, zN_lt0, zN_nm, zN_mn, zN_mlt, zN_ltm, zN_lem, zN_mle, zN_m1, zN_m2, zN_addm, zN_ofNat, zN_beq, zN_add, zN_sub, zN_mul, zN_rem, qT_lt, qF_lt, qT_le, qF_le, qT_eq, qF_eq, ↓reduceIte, and_true, true_and, false_and, and_false, not_true_eq_false, not_false_eq_true, decide_true, decide_false, Bool.true_or, Bool.or_true, Bool.false_or, Bool.or_false, cond_true, cond_false, zN_div, nat_rem, b1, b2]
    · rw [if_neg e2] at b2 ⊢
      simp (disch := omega) only [s_X8_two_0, s_X8_two_1, s_X8_two_2, s_X8_two_4, s_X8_two_5, s_X8_two_6, s_X8_two_8, s_X8_two_9, s_X8_two_12, s_X8_two_13, s_X8_two_15, s_X8_two_16, s_X8_two_17, s_X8_two_18, s_X8_two_19, s_X8_two_20, s_X8_two_22, s_X8_two_23, s_X8_two_26, s_X8_two_27, s_X8_two_29, s_X8_two_30, s_X8_two_33, s_X8_two_34, s_X8_two_35, s_X8_two_36, s_X8_two_38, s_X8_two_39, s_X8_two_42, s_X8_two_43, s_X8_two_45, s_X8_two_46, s_X8_two_49, s_X8_two_51, s_X8_two_54, s_X8_two_55, ↓mg0, ↓mg1, ↓mg2, ↓mg3, ↓mg4, ↓mg5, ↓mg6, ↓mg7, ↓mg8, ↓mg9, ↓mg10, ↓mg11, ↓mg12, ↓mg13, ↓mg14, ↓mp0, ↓mp5, ↓mp11, ↓mp12, ↓mp13, ↓mp14, ↓ml1, ↓ml2, ↓ml3, ↓ml4, ↓ml5, ↓ml7, ↓ml8, ↓ml9, ↓mlr, ↓mt1, ↓mt2, ↓mt3, ↓mt4, ↓mt5, ↓mt7, ↓mt8, ↓mt9, ↓mlz, ↓mtz, mm_i, cond_true, cond_false, qAv, qAn, qV_vv, qV_s, qV_n, qU_s, qU_n, zN_neg1, nL0, nL1, nL2, nL3, nL4, nL5, nL6, nL7, nL8, nL9, nL10, nL11, nL12, nL13, nL14, nL20, nL21, nL22, nL23, nL25, nL32, nL33, nL39, nL40, nL43, nL44, nL99, nL100, nL120, nL216, nL217, nL218, nL219, nL220, nL221, nL500, nL999, nL1000, nL10000, nL100000, sh33, zN_lt, zN_le, zN_eq, zN_ge0, zN_lt0, zN_nm, zN_mn, zN_mlt, zN_ltm, zN_lem, zN_mle, zN_m1, zN_m2, zN_addm, zN_ofNat, zN_beq, zN_add, zN_sub, zN_mul, zN_rem, qT_lt, qF_lt, qT_le, qF_le, qT_eq, qF_eq, ↓reduceIte, and_true, true_and, false_and, and_false, not_true_eq_false, not_false_eq_true, decide_true, decide_false, Bool.true_or, Bool.or_true, Bool.false_or, Bool.or_false, cond_true, cond_false, zN_div, nat_rem, b1, b2]
  · rw [if_neg e1] at b2 ⊢
    by_cases e2 : a1 = hi / 10
    · rw [if_pos e2] at b2 ⊢
      simp (disch := omega) only [s_X8_two_0, s_X8_two_1, s_X8_two_2, s_X8_two_4, s_X8_two_5, s_X8_two_6, s_X8_two_8, s_X8_two_9, s_X8_two_12, s_X8_two_13, s_X8_two_15, s_X8_two_16, s_X8_two_17, s_X8_two_18, s_X8_two_19, s_X8_two_20, s_X8_two_22, s_X8_two_23, s_X8_two_26, s_X8_two_27, s_X8_two_29, s_X8_two_30, s_X8_two_33, s_X8_two_34, s_X8_two_35, s_X8_two_36, s_X8_two_38, s_X8_two_39, s_X8_two_42, s_X8_two_43, s_X8_two_45, s_X8_two_46, s_X8_two_49, s_X8_two_51, s_X8_two_54, s_X8_two_55, ↓mg0, ↓mg1, ↓mg2, ↓mg3, ↓mg4, ↓mg5, ↓mg6, ↓mg7, ↓mg8, ↓mg9, ↓mg10, ↓mg11, ↓mg12, ↓mg13, ↓mg14, ↓mp0, ↓mp5, ↓mp11, ↓mp12, ↓mp13, ↓mp14, ↓ml1, ↓ml2, ↓ml3, ↓ml4, ↓ml5, ↓ml7, ↓ml8, ↓ml9, ↓mlr, ↓mt1, ↓mt2, ↓mt3, ↓mt4, ↓mt5, ↓mt7, ↓mt8, ↓mt9, ↓mlz, ↓mtz, mm_i, cond_true, cond_false, qAv, qAn, qV_vv, qV_s, qV_n, qU_s, qU_n, zN_neg1, nL0, nL1, nL2, nL3, nL4, nL5, nL6, nL7, nL8, nL9, nL10, nL11, nL12, nL13, nL14, nL20, nL21, nL22, nL23, nL25, nL32, nL33, nL39, nL40, nL43, nL44, nL99, nL100, nL120, nL216, nL217, nL218, nL219, nL220, nL221, nL500, nL999, nL1000, nL10000, nL100000, sh33, zN_lt, zN_le, zN_eq, zN_ge0, zN_lt0, zN_nm, zN_mn, zN_mlt, zN_ltm, zN_lem, zN_mle, zN_m1, zN_m2, zN_addm, zN_ofNat, zN_beq, zN_add, zN_sub, zN_mul, zN_rem, qT_lt, qF_lt, qT_le, qF_le, qT_eq, qF_eq, ↓reduceIte, and_true, true_and, false_and, and_false, not_true_eq_false, not_false_eq_true, decide_true, decide_false, Bool.true_or, Bool.or_true, Bool.false_or, Bool.or_false, cond_true, cond_false, zN_div, nat_rem, b1, b2]
    · rw [if_neg e2] at b2 ⊢
      simp (disch := omega) only [s_X8_two_0, s_X8_two_1, s_X8_two_2, s_X8_two_4, s_X8_two_5, s_X8_two_6, s_X8_two_8, s_X8_two_9, s_X8_two_12, s_X8_two_13, s_X8_two_15, s_X8_two_16, s_X8_two_17, s_X8_two_18, s_X8_two_19, s_X8_two_20, s_X8_two_22, s_X8_two_23, s_X8_two_26, s_X8_two_27, s_X8_two_29, s_X8_two_30, s_X8_two_33, s_X8_two_34, s_X8_two_35, s_X8_two_36, s_X8_two_38, s_X8_two_39, s_X8_two_42, s_X8_two_43, s_X8_two_45, s_X8_two_46, s_X8_two_49, s_X8_two_51, s_X8_two_54, s_X8_two_55, ↓mg0, ↓mg1, ↓mg2, ↓mg3, ↓mg4, ↓mg5, ↓mg6, ↓mg7, ↓mg8, ↓mg9, ↓mg10, ↓mg11, ↓mg12, ↓mg13, ↓mg14, ↓mp0, ↓mp5, ↓mp11, ↓mp12, ↓mp13, ↓mp14, ↓ml1, ↓ml2, ↓ml3, ↓ml4, ↓ml5, ↓ml7, ↓ml8, ↓ml9, ↓mlr, ↓mt1, ↓mt2, ↓mt3, ↓mt4, ↓mt5, ↓mt7, ↓mt8, ↓mt9, ↓mlz, ↓mtz, mm_i, cond_true, cond_false, qAv, qAn, qV_vv, qV_s, qV_n, qU_s, qU_n, zN_neg1, nL0, nL1, nL2, nL3, nL4, nL5, nL6, nL7, nL8, nL9, nL10, nL11, nL12, nL13, nL14, nL20, nL21, nL22, nL23, nL25, nL32, nL33, nL39, nL40, nL43, nL44, nL99, nL100, nL120, nL216, nL217, nL218, nL219, nL220, nL221, nL500, nL999, nL1000, nL10000, nL100000, sh33, zN_lt, zN_le, zN_eq, zN_ge0, zN_lt0, zN_nm, zN_mn, zN_mlt, zN_ltm, zN_lem, zN_mle, zN_m1, zN_m2, zN_addm, zN_ofNat, zN_beq, zN_add, zN_sub, zN_mul, zN_rem, qT_lt, qF_lt, qT_le, qF_le, qT_eq, qF_eq, ↓reduceIte, and_true, true_and, false_and, and_false, not_true_eq_false, not_false_eq_true, decide_true, decide_false, Bool.true_or, Bool.or_true, Bool.false_or, Bool.or_false, cond_true, cond_false, zN_div, nat_rem, b1, b2]
theorem n_goes {cz : Nat} (hb : bz = 0 ∨ bz = 1) (hc : cz = 0 ∨ cz = 1) : pwX so 178 0 [some (.ref bq), some (.int (zN cz))] [] g (mkM bq (rdS sc iq bz nz) Rq w) = some (.inl (some (.int (zN (bz * cz)))), g, (mkM bq (rdS sc iq bz (nz + bz * (1 - cz))) Rq w)) := by
  rcases hb with rfl | rfl <;> rcases hc with rfl | rfl <;> (simp (disch := omega) only [s_X8_goes_0, s_X8_goes_1, s_X8_goes_2, s_X8_goes_5, s_X8_goes_6, s_X8_goes_9, s_X8_goes_12, s_X8_goes_13, s_X8_goes_16, s_X8_goes_17, s_X8_goes_20, s_X8_goes_21, s_X8_goes_22, s_X8_goes_25, s_X8_goes_26, s_X8_goes_29, s_X8_goes_32, s_X8_goes_33, s_X8_goes_36, s_X8_goes_37, s_X8_goes_40, s_X8_goes_41, ↓mg0, ↓mg1, ↓mg2, ↓mg3, ↓mg4, ↓mg5, ↓mg6, ↓mg7, ↓mg8, ↓mg9, ↓mg10, ↓mg11, ↓mg12, ↓mg13, ↓mg14, ↓mp0, ↓mp5, ↓mp11, ↓mp12, ↓mp13, ↓mp14, ↓ml1, ↓ml2, ↓ml3, ↓ml4, ↓ml5, ↓ml7, ↓ml8, ↓ml9, ↓mlr, ↓mt1, ↓mt2, ↓mt3, ↓mt4, ↓mt5, ↓mt7, ↓mt8, ↓mt9, ↓mlz, ↓mtz, mm_i, cond_true, cond_false, qAv, qAn, qV_vv, qV_s, qV_n, qU_s, qU_n, zN_neg1, nL0, nL1, nL2, nL3, nL4, nL5, nL6, nL7, nL8, nL9, nL10, nL11, nL12, nL13, nL14, nL20, nL21, nL22, nL23, nL25, nL32, nL33, nL39, nL40, nL43, nL44, nL99, nL100, nL120, nL216, nL217, nL218, nL219, nL220, nL221, nL500, nL999, nL1000, nL10000, nL100000, sh33, zN_lt, zN_le, zN_eq, zN_ge0, zN_lt0, zN_nm, zN_mn, zN_mlt, zN_ltm, zN_lem, zN_mle, zN_m1, zN_m2, zN_addm, zN_ofNat, zN_beq, zN_add, zN_sub, zN_mul, zN_rem, qT_lt, qF_lt, qT_le, qF_le, qT_eq, qF_eq, ↓reduceIte, and_true, true_and, false_and, and_false, not_true_eq_false, not_false_eq_true, decide_true, decide_false, Bool.true_or, Bool.or_true, Bool.false_or, Bool.or_false, cond_true, cond_false, qbi, qb1, qb0, rd_13, rd_14, ru_14]; try rfl)
end QA

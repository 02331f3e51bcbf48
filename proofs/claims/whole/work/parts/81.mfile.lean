/-! the pure part: the model lays the file -/
section QA
variable {so : Nat → Nat} {g : pwG} {bq jr : Nat} {sc : Nat → Int32} {Rq : Nat → Nat → Int32} {w : pwW} {Aq Bq : TA} {nq sq kq : Nat} {pq rq tq uq : Int32} {fq hq : Nat → Int32}
theorem l_one {ls : List Nat} {aq : Nat} {rs : List Nat} {l1 : List Nat} (h : ls = l1 ++ aq :: rs) : ls[l1.length]? = some aq := by
  rw [h, List.getElem?_append_right (Nat.le_refl _), Nat.sub_self]; rfl
/-- one more in the file -/
theorem f_more {ps : List Nat} {aq : Nat} {f7 : Nat → Int32} (h : lsM 0 ps f7) : lsM 0 (ps ++ [aq]) (upd f7 ps.length (zN aq)) :=
  lsM_snoc h (fun jq hj => by rw [Nat.zero_add, qU_n (by omega)]) (by rw [Nat.zero_add, qU_s])
theorem n_lf4 {ls : List Nat} (h1 : 1 ≤ jr) (h3 : jr ≤ 3) (hc : Rq jr 32 = zN ls.length) (hl : lsM 33 ls (Rq jr)) (hn : ls.length ≤ 10) : ∀ (rs l1 : List Nat) (f7 : Nat → Int32), ls = l1 ++ rs → lsM 0 l1 f7 → ∃ f8, lsM 0 ls f8 ∧ pwX so 147 4 [some (.ref bq), some (.ref (bq + jr)), some (.int (zN l1.length)), some (.int (zN l1.length)), none, none] [] g (mkM bq sc (va_up Rq 7 f7) w) = pwX so 147 33 [some (.ref bq), some (.ref (bq + jr)), some (.int (zN ls.length)), some (.int (zN ls.length)), none, none] [] g (mkM bq sc (va_up Rq 7 f8) w) := by
  intro rs
  induction rs with
  | nil =>
    intro l1 f7 he hf
    rw [List.append_nil] at he
    subst he
    refine ⟨f7, hf, ?_⟩
    simp (disch := omega) only [s_X8_layFile_4, s_X8_layFile_5, s_X8_layFile_6, s_X8_layFile_8, s_X8_layFile_9, ↓mg0, ↓mg1, ↓mg2, ↓mg3, ↓mg4, ↓mg5, ↓mg6, ↓mg7, ↓mg8, ↓mg9, ↓mg10, ↓mg11, ↓mg12, ↓mg13, ↓mg14, ↓mp0, ↓mp5, ↓mp11, ↓mp12, ↓mp13, ↓mp14, ↓ml1, ↓ml2, ↓ml3, ↓ml4, ↓ml5, ↓ml7, ↓ml8, ↓ml9, ↓mlr, ↓mt1, ↓mt2, ↓mt3, ↓mt4, ↓mt5, ↓mt7, ↓mt8, ↓mt9, ↓mlz, ↓mtz, mm_i, cond_true, cond_false, qAv, qAn, qV_vv, qV_s, qV_n, qU_s, qU_n, zN_neg1, nL0, nL1, nL2, nL3, nL4, nL5, nL6, nL7, nL8, nL9, nL10, nL11, nL12, nL13, nL14, nL20, nL21, nL22, nL23, nL25, nL32, nL33, nL39, nL40, nL43, nL44, nL99, nL100, nL120, nL216, nL217, nL218, nL219, nL220, nL221, nL500, nL999, nL1000, nL10000, nL100000, sh33, zN_lt, zN_le, zN_eq, zN_ge0, zN_lt0, zN_nm, zN_mn, zN_mlt, zN_ltm, zN_lem, zN_mle, zN_m1, zN_m2, zN_addm, zN_ofNat, zN_beq, zN_add, zN_sub, zN_mul, zN_rem, qT_lt, qF_lt, qT_le, qF_le, qT_eq, qF_eq, ↓reduceIte, and_true, true_and, false_and, and_false, not_true_eq_false, not_false_eq_true, decide_true, decide_false, Bool.true_or, Bool.or_true, Bool.false_or, Bool.or_false, cond_true, cond_false, hc]
  | cons aq rs ih =>
    intro l1 f7 he hf
    have hlen := congrArg List.length he
    simp only [List.length_append, List.length_cons] at hlen
    obtain ⟨f8, i1, i2⟩ := ih (l1 ++ [aq]) (upd f7 l1.length (zN aq)) (by rw [List.append_assoc]; exact he) (f_more hf)
    refine ⟨f8, i1, ?_⟩
    rw [← i2, s_X8_layFile_4, List.length_append, List.length_singleton]
    have hv := hl _ _ (l_one he)
    simp (disch := omega) only [s_X8_layFile_5, s_X8_layFile_6, s_X8_layFile_8, s_X8_layFile_9, s_X8_layFile_12, s_X8_layFile_13, s_X8_layFile_16, s_X8_layFile_17, s_X8_layFile_18, s_X8_layFile_20, s_X8_layFile_21, s_X8_layFile_22, s_X8_layFile_23, s_X8_layFile_24, s_X8_layFile_27, s_X8_layFile_30, ↓mg0, ↓mg1, ↓mg2, ↓mg3, ↓mg4, ↓mg5, ↓mg6, ↓mg7, ↓mg8, ↓mg9, ↓mg10, ↓mg11, ↓mg12, ↓mg13, ↓mg14, ↓mp0, ↓mp5, ↓mp11, ↓mp12, ↓mp13, ↓mp14, ↓ml1, ↓ml2, ↓ml3, ↓ml4, ↓ml5, ↓ml7, ↓ml8, ↓ml9, ↓mlr, ↓mt1, ↓mt2, ↓mt3, ↓mt4, ↓mt5, ↓mt7, ↓mt8, ↓mt9, ↓mlz, ↓mtz, mm_i, cond_true, cond_false, qAv, qAn, qV_vv, qV_s, qV_n, qU_s, qU_n, zN_neg1, nL0, nL1, nL2, nL3, nL4, nL5, nL6, nL7, nL8, nL9, nL10, nL11, nL12, nL13, nL14, nL20, nL21, nL22, nL23, nL25, nL32, nL33, nL39, nL40, nL43, nL44, nL99, nL100, nL120, nL216, nL217, nL218, nL219, nL220, nL221, nL500, nL999, nL1000, nL10000, nL100000, sh33, zN_lt, zN_le, zN_eq, zN_ge0, zN_lt0, zN_nm, zN_mn, zN_mlt, zN_ltm, zN_lem, zN_mle, zN_m1, zN_m2, zN_addm, zN_ofNat, zN_beq, zN_add, zN_sub, zN_mul, zN_rem, qT_lt, qF_lt, qT_le, qF_le, qT_eq, qF_eq, ↓reduceIte, and_true, true_and, false_and, and_false, not_true_eq_false, not_false_eq_true, decide_true, decide_false, Bool.true_or, Bool.or_true, Bool.false_or, Bool.or_false, cond_true, cond_false, hc, hv]
theorem n_lf53 {ls ps : List Nat} {sz : Int32} (hs : sq < 4) (h1 : 1 ≤ jr) (h3 : jr ≤ 3) (hc : Rq jr (44 + 43 * sq + 5) = zN ls.length) (hl : lsM (44 + 43 * sq + 6) ls (Rq jr)) (hn : ps.length + ls.length ≤ 10) (hn6 : ls.length ≤ 6) : ∀ (rs l1 : List Nat) (f7 : Nat → Int32), ls = l1 ++ rs → lsM 0 (ps ++ l1) f7 → ∃ f8, lsM 0 (ps ++ ls) f8 ∧ pwX so 147 53 [some (.ref bq), some (.ref (bq + jr)), some (.int (zN (ps.length + l1.length))), some (.int sz), some (.int (zN (44 + 43 * sq))), some (.int (zN l1.length))] [] g (mkM bq sc (va_up Rq 7 f7) w) = pwX so 147 89 [some (.ref bq), some (.ref (bq + jr)), some (.int (zN (ps.length + ls.length))), some (.int sz), some (.int (zN (44 + 43 * sq))), some (.int (zN ls.length))] [] g (mkM bq sc (va_up Rq 7 f8) w) := by
  intro rs
  induction rs with
  | nil =>
    intro l1 f7 he hf
    rw [List.append_nil] at he
    subst he
    refine ⟨f7, hf, ?_⟩
    simp (disch := omega) only [s_X8_layFile_53, s_X8_layFile_55, s_X8_layFile_56, s_X8_layFile_58, s_X8_layFile_59, s_X8_layFile_60, s_X8_layFile_61, ↓mg0, ↓mg1, ↓mg2, ↓mg3, ↓mg4, ↓mg5, ↓mg6, ↓mg7, ↓mg8, ↓mg9, ↓mg10, ↓mg11, ↓mg12, ↓mg13, ↓mg14, ↓mp0, ↓mp5, ↓mp11, ↓mp12, ↓mp13, ↓mp14, ↓ml1, ↓ml2, ↓ml3, ↓ml4, ↓ml5, ↓ml7, ↓ml8, ↓ml9, ↓mlr, ↓mt1, ↓mt2, ↓mt3, ↓mt4, ↓mt5, ↓mt7, ↓mt8, ↓mt9, ↓mlz, ↓mtz, mm_i, cond_true, cond_false, qAv, qAn, qV_vv, qV_s, qV_n, qU_s, qU_n, zN_neg1, nL0, nL1, nL2, nL3, nL4, nL5, nL6, nL7, nL8, nL9, nL10, nL11, nL12, nL13, nL14, nL20, nL21, nL22, nL23, nL25, nL32, nL33, nL39, nL40, nL43, nL44, nL99, nL100, nL120, nL216, nL217, nL218, nL219, nL220, nL221, nL500, nL999, nL1000, nL10000, nL100000, sh33, zN_lt, zN_le, zN_eq, zN_ge0, zN_lt0, zN_nm, zN_mn, zN_mlt, zN_ltm, zN_lem, zN_mle, zN_m1, zN_m2, zN_addm, zN_ofNat, zN_beq, zN_add, zN_sub, zN_mul, zN_rem, qT_lt, qF_lt, qT_le, qF_le, qT_eq, qF_eq, ↓reduceIte, and_true, true_and, false_and, and_false, not_true_eq_false, not_false_eq_true, decide_true, decide_false, Bool.true_or, Bool.or_true, Bool.false_or, Bool.or_false, cond_true, cond_false, hc]
  | cons aq rs ih =>
    intro l1 f7 he hf
    have hlen := congrArg List.length he
    simp only [List.length_append, List.length_cons] at hlen
    obtain ⟨f8, i1, i2⟩ := ih (l1 ++ [aq]) (upd f7 (ps.length + l1.length) (zN aq)) (by rw [List.append_assoc]; exact he) (by
      have := f_more (aq := aq) hf
      rw [List.length_append, List.append_assoc] at this
      exact this)
    refine ⟨f8, i1, ?_⟩
    have hv := hl _ _ (l_one he)
    rw [← i2, s_X8_layFile_53, List.length_append, List.length_singleton, ← Nat.add_assoc]
    simp (disch := omega) only [s_X8_layFile_55, s_X8_layFile_56, s_X8_layFile_58, s_X8_layFile_59, s_X8_layFile_60, s_X8_layFile_61, s_X8_layFile_64, s_X8_layFile_65, s_X8_layFile_68, s_X8_layFile_69, s_X8_layFile_70, s_X8_layFile_72, s_X8_layFile_74, s_X8_layFile_75, s_X8_layFile_77, s_X8_layFile_78, s_X8_layFile_79, s_X8_layFile_80, s_X8_layFile_83, s_X8_layFile_86, ↓mg0, ↓mg1, ↓mg2, ↓mg3, ↓mg4, ↓mg5, ↓mg6, ↓mg7, ↓mg8, ↓mg9, ↓mg10, ↓mg11, ↓mg12, ↓mg13, ↓mg14, ↓mp0, ↓mp5, ↓mp11, ↓mp12, ↓mp13, ↓mp14, ↓ml1, ↓ml2, ↓ml3, ↓ml4, ↓ml5, ↓ml7, ↓ml8, ↓ml9, ↓mlr, ↓mt1, ↓mt2, ↓mt3, ↓mt4, ↓mt5, ↓mt7, ↓mt8, ↓mt9, ↓mlz, ↓mtz, mm_i, cond_true, cond_false, qAv, qAn, qV_vv, qV_s, qV_n, qU_s, qU_n, zN_neg1, nL0, nL1, nL2, nL3, nL4, nL5, nL6, nL7, nL8, nL9, nL10, nL11, nL12, nL13, nL14, nL20, nL21, nL22, nL23, nL25, nL32, nL33, nL39, nL40, nL43, nL44, nL99, nL100, nL120, nL216, nL217, nL218, nL219, nL220, nL221, nL500, nL999, nL1000, nL10000, nL100000, sh33, zN_lt, zN_le, zN_eq, zN_ge0, zN_lt0, zN_nm, zN_mn, zN_mlt, zN_ltm, zN_lem, zN_mle, zN_m1, zN_m2, zN_addm, zN_ofNat, zN_beq, zN_add, zN_sub, zN_mul, zN_rem, qT_lt, qF_lt, qT_le, qF_le, qT_eq, qF_eq, ↓reduceIte, and_true, true_and, false_and, and_false, not_true_eq_false, not_false_eq_true, decide_true, decide_false, Bool.true_or, Bool.or_true, Bool.false_or, Bool.or_false, cond_true, cond_false, hc, hv]
theorem n_lf99 {es : List (Nat × Nat)} {ps : List Nat} (hs : sq < 4) (h1 : 1 ≤ jr) (h3 : jr ≤ 3) (hl : ∀ cq, cq < 20 → Rq jr (44 + 43 * sq + 23 + cq) = oV (cO es cq)) (hn : ps.length + es.length ≤ 10) (hk : ∀ eq ∈ es, eq.2 < 10) : ∀ (dq : Nat) (ms rs : List (Nat × Nat)) (f7 : Nat → Int32), es = ms ++ rs → dq ≤ 20 → cDown dq rs → (∀ mq ∈ ms, dq ≤ mq.1) → lsM 0 (ps ++ ms.map Prod.snd) f7 → ∃ f8, lsM 0 (ps ++ es.map Prod.snd) f8 ∧ pwX so 147 99 [some (.ref bq), some (.ref (bq + jr)), some (.int (zN (ps.length + ms.length))), some (.int (zN sq)), some (.int (zN (44 + 43 * sq))), some (.int (zN dq + zM))] [] g (mkM bq sc (va_up Rq 7 f7) w) = pwX so 147 40 [some (.ref bq), some (.ref (bq + jr)), some (.int (zN (ps.length + es.length))), some (.int (zN sq + zM)), some (.int (zN (44 + 43 * sq))), some (.int zM)] [] g (mkM bq sc (va_up Rq 7 f8) w) := by
  intro dq
  induction dq with
  | zero =>
    intro ms rs f7 he h20 hd hm hf
    cases rs with
    | nil =>
      rw [List.append_nil] at he
      subst he
      refine ⟨f7, hf, ?_⟩
      have e1 : zN 0 + zM = zM := by decide
      have e2 : (zM < zN 0) = True := eq_true (by decide)
      rw [e1]
      simp (disch := omega) only [s_X8_layFile_99, s_X8_layFile_101, s_X8_layFile_143, s_X8_layFile_146, zN_neg1, nL0, nL1, nL2, nL3, nL4, nL5, nL6, nL7, nL8, nL9, nL10, nL11, nL12, nL13, nL14, nL20, nL21, nL22, nL23, nL25, nL32, nL33, nL39, nL40, nL43, nL44, nL99, nL100, nL120, nL216, nL217, nL218, nL219, nL220, nL221, nL500, nL999, nL1000, nL10000, nL100000, ↓reduceIte, e2]
    | cons e rs => exact absurd hd.1 (Nat.not_lt_zero _)
  | succ dq ih =>
    intro ms rs f7 he h20 hd hm hf
    have hlen := congrArg List.length he
    simp only [List.length_append] at hlen
    have hv := hl dq (by omega)
    have hms : cO ms dq = none := cO_none.mpr fun eq hq hh => by have := hm eq hq; omega
    rw [he, cO_app, hms] at hv
    rw [zN_addm (by omega), Nat.add_sub_cancel, s_X8_layFile_99]
    cases rs with
    | nil =>
      obtain ⟨f8, i1, i2⟩ := ih ms [] f7 he (by omega) trivial (fun mq hq => by have := hm mq hq; omega) hf
      refine ⟨f8, i1, ?_⟩
      have hv : Rq jr (44 + 43 * sq + 23 + dq) = zM := hv
      rw [← i2]
      simp (disch := omega) only [s_X8_layFile_101, s_X8_layFile_104, s_X8_layFile_105, s_X8_layFile_107, s_X8_layFile_109, s_X8_layFile_110, s_X8_layFile_112, s_X8_layFile_113, s_X8_layFile_114, s_X8_layFile_115, s_X8_layFile_118, s_X8_layFile_119, s_X8_layFile_122, s_X8_layFile_123, s_X8_layFile_124, s_X8_layFile_126, s_X8_layFile_128, s_X8_layFile_129, s_X8_layFile_131, s_X8_layFile_132, s_X8_layFile_133, s_X8_layFile_134, s_X8_layFile_137, s_X8_layFile_140, ↓mg0, ↓mg1, ↓mg2, ↓mg3, ↓mg4, ↓mg5, ↓mg6, ↓mg7, ↓mg8, ↓mg9, ↓mg10, ↓mg11, ↓mg12, ↓mg13, ↓mg14, ↓mp0, ↓mp5, ↓mp11, ↓mp12, ↓mp13, ↓mp14, ↓ml1, ↓ml2, ↓ml3, ↓ml4, ↓ml5, ↓ml7, ↓ml8, ↓ml9, ↓mlr, ↓mt1, ↓mt2, ↓mt3, ↓mt4, ↓mt5, ↓mt7, ↓mt8, ↓mt9, ↓mlz, ↓mtz, mm_i, cond_true, cond_false, qAv, qAn, zN_neg1, nL0, nL1, nL2, nL3, nL4, nL5, nL6, nL7, nL8, nL9, nL10, nL11, nL12, nL13, nL14, nL20, nL21, nL22, nL23, nL25, nL32, nL33, nL39, nL40, nL43, nL44, nL99, nL100, nL120, nL216, nL217, nL218, nL219, nL220, nL221, nL500, nL999, nL1000, nL10000, nL100000, zN_add, zN_lt0, qT_lt, qF_lt, qT_le, qF_le, qT_eq, qF_eq, ↓reduceIte, and_true, true_and, false_and, and_false, not_true_eq_false, not_false_eq_true, decide_true, decide_false, Bool.true_or, Bool.or_true, Bool.false_or, Bool.or_false, cond_true, cond_false, qV_n, hv]
    | cons e rs =>
      obtain ⟨ec, ek⟩ := e
      have hec : ec < dq + 1 := hd.1
      by_cases hx : ec = dq
      · subst hx
        have hek : ek < 10 := hk (ec, ek) (by rw [he]; exact List.mem_append_right _ List.mem_cons_self)
        have hva : Rq jr (44 + 43 * sq + 23 + ec) = zN ek := by rw [hv]; show oV (if ec = ec then some ek else _) = _; rw [if_pos rfl]; rfl
        simp only [List.length_cons] at hlen
        obtain ⟨f8, i1, i2⟩ := ih (ms ++ [(ec, ek)]) rs (upd f7 (ps.length + ms.length) (zN ek)) (by rw [List.append_assoc]; exact he) (by omega) hd.2 (fun mq hq => by
          rcases List.mem_append.mp hq with hq | hq
          · have := hm mq hq; omega
          · cases List.mem_singleton.mp hq; exact Nat.le_refl _) (by
          have := f_more (aq := ek) hf
          rw [List.length_append, List.length_map, List.append_assoc] at this
          rw [List.map_append]; exact this)
        refine ⟨f8, i1, ?_⟩
        rw [← i2, List.length_append, List.length_singleton, ← Nat.add_assoc]
        simp (disch := omega) only [s_X8_layFile_101, s_X8_layFile_104, s_X8_layFile_105, s_X8_layFile_107, s_X8_layFile_109, s_X8_layFile_110, s_X8_layFile_112, s_X8_layFile_113, s_X8_layFile_114, s_X8_layFile_115, s_X8_layFile_118, s_X8_layFile_119, s_X8_layFile_122, s_X8_layFile_123, s_X8_layFile_124, s_X8_layFile_126, s_X8_layFile_128, s_X8_layFile_129, s_X8_layFile_131, s_X8_layFile_132, s_X8_layFile_133, s_X8_layFile_134, s_X8_layFile_137, s_X8_layFile_140, ↓mg0, ↓mg1, ↓mg2, ↓mg3, ↓mg4, ↓mg5, ↓mg6, ↓mg7, ↓mg8, ↓mg9, ↓mg10, ↓mg11, ↓mg12, ↓mg13, ↓mg14, ↓mp0, ↓mp5, ↓mp11, ↓mp12, ↓mp13, ↓mp14, ↓ml1, ↓ml2, ↓ml3, ↓ml4, ↓ml5, ↓ml7, ↓ml8, ↓ml9, ↓mlr, ↓mt1, ↓mt2, ↓mt3, ↓mt4, ↓mt5, ↓mt7, ↓mt8, ↓mt9, ↓mlz, ↓mtz, mm_i, cond_true, cond_false, qAv, qAn, zN_neg1, nL0, nL1, nL2, nL3, nL4, nL5, nL6, nL7, nL8, nL9, nL10, nL11, nL12, nL13, nL14, nL20, nL21, nL22, nL23, nL25, nL32, nL33, nL39, nL40, nL43, nL44, nL99, nL100, nL120, nL216, nL217, nL218, nL219, nL220, nL221, nL500, nL999, nL1000, nL10000, nL100000, zN_add, zN_lt0, zN_nm, qT_lt, qF_lt, qT_le, qF_le, qT_eq, qF_eq, ↓reduceIte, and_true, true_and, false_and, and_false, not_true_eq_false, not_false_eq_true, decide_true, decide_false, Bool.true_or, Bool.or_true, Bool.false_or, Bool.or_false, cond_true, cond_false, qV_n, qV_vv, qV_s, hva]
      · obtain ⟨f8, i1, i2⟩ := ih ms ((ec, ek) :: rs) f7 he (by omega) ⟨by show ec < dq; omega, hd.2⟩ (fun mq hq => by have := hm mq hq; omega) hf
        refine ⟨f8, i1, ?_⟩
        have hva : Rq jr (44 + 43 * sq + 23 + dq) = zM := by
          rw [hv]; show oV (if ec = dq then some ek else cO rs dq) = zM
          rw [if_neg hx, cO_below hd.2 (by omega)]; rfl
        rw [← i2]
        simp (disch := omega) only [s_X8_layFile_101, s_X8_layFile_104, s_X8_layFile_105, s_X8_layFile_107, s_X8_layFile_109, s_X8_layFile_110, s_X8_layFile_112, s_X8_layFile_113, s_X8_layFile_114, s_X8_layFile_115, s_X8_layFile_118, s_X8_layFile_119, s_X8_layFile_122, s_X8_layFile_123, s_X8_layFile_124, s_X8_layFile_126, s_X8_layFile_128, s_X8_layFile_129, s_X8_layFile_131, s_X8_layFile_132, s_X8_layFile_133, s_X8_layFile_134, s_X8_layFile_137, s_X8_layFile_140, ↓mg0, ↓mg1, ↓mg2, ↓mg3, ↓mg4, ↓mg5, ↓mg6, ↓mg7, ↓mg8, ↓mg9, ↓mg10, ↓mg11, ↓mg12, ↓mg13, ↓mg14, ↓mp0, ↓mp5, ↓mp11, ↓mp12, ↓mp13, ↓mp14, ↓ml1, ↓ml2, ↓ml3, ↓ml4, ↓ml5, ↓ml7, ↓ml8, ↓ml9, ↓mlr, ↓mt1, ↓mt2, ↓mt3, ↓mt4, ↓mt5, ↓mt7, ↓mt8, ↓mt9, ↓mlz, ↓mtz, mm_i, cond_true, cond_false, qAv, qAn, zN_neg1, nL0, nL1, nL2, nL3, nL4, nL5, nL6, nL7, nL8, nL9, nL10, nL11, nL12, nL13, nL14, nL20, nL21, nL22, nL23, nL25, nL32, nL33, nL39, nL40, nL43, nL44, nL99, nL100, nL120, nL216, nL217, nL218, nL219, nL220, nL221, nL500, nL999, nL1000, nL10000, nL100000, zN_add, zN_lt0, qT_lt, qF_lt, qT_le, qF_le, qT_eq, qF_eq, ↓reduceIte, and_true, true_and, false_and, and_false, not_true_eq_false, not_false_eq_true, decide_true, decide_false, Bool.true_or, Bool.or_true, Bool.false_or, Bool.or_false, cond_true, cond_false, qV_n, hva]
theorem n_lf40 (h1 : 1 ≤ jr) (h3 : jr ≤ 3) (hI : invT Aq) (hM : repM Aq (Rq jr)) : ∀ (jq : Nat) (f7 : Nat → Int32) (o4 o5 : Option Value), jq ≤ tN Aq 0 → lsM 0 (wP Aq jq) f7 → ∃ (f8 : Nat → Int32) (p4 p5 : Option Value), lsM 0 (wP Aq 0) f8 ∧ pwX so 147 40 [some (.ref bq), some (.ref (bq + jr)), some (.int (zN (wP Aq jq).length)), some (.int (zN jq + zM)), o4, o5] [] g (mkM bq sc (va_up Rq 7 f7) w) = pwX so 147 40 [some (.ref bq), some (.ref (bq + jr)), some (.int (zN (wP Aq 0).length)), some (.int zM), p4, p5] [] g (mkM bq sc (va_up Rq 7 f8) w) := by
  have h4 := hI.1
  intro jq
  induction jq with
  | zero =>
    intro f7 o4 o5 _ hf
    refine ⟨f7, o4, o5, hf, ?_⟩
    rw [show zN 0 + zM = zM by decide]
  | succ jq ih =>
    intro f7 o4 o5 hj hf
    have hs : jq < tN Aq 0 := hj
    obtain ⟨⟨a0, -⟩, ⟨b0, b1⟩, -, d⟩ := hM.2.2.2.2 jq hs
    obtain ⟨⟨⟨i1, i2⟩, ⟨i3, i4⟩, i5, i6, i7, i8⟩, i9, i10, i11⟩ := hI.2.2 jq hs
    have hw := walk_lt hI hs
    have hst := len_street hI hs
    rw [fP_len] at hst
    obtain ⟨f8, j1, j2⟩ := @n_lf53 so g bq jr sc Rq w jq (tL Aq (4 + jq)) (wP Aq (jq + 1)) (zN jq) (by omega) h1 h3 b0 b1 (by omega) (by omega) (tL Aq (4 + jq)) [] f7 rfl (by rw [List.append_nil]; exact hf)
    obtain ⟨f9, k1, k2⟩ := @n_lf99 so g bq jr sc Rq w jq (tC Aq jq) (wP Aq (jq + 1) ++ tL Aq (4 + jq)) (by omega) h1 h3 d (by rw [List.length_append]; omega) (fun eq he => by have := hw.2 eq he; omega) (tN Aq (4 + jq)) [] (tC Aq jq) f8 rfl (by omega) i10 (fun mq hm => by cases hm) (by rw [List.map_nil, List.append_nil]; exact j1)
    have hP : wP Aq jq = wP Aq (jq + 1) ++ tL Aq (4 + jq) ++ (tC Aq jq).map Prod.snd := by rw [wP_s hs]; unfold wSt; rw [List.append_assoc]
    obtain ⟨f10, p4, p5, l1, l2⟩ := ih f9 (some (.int (zN (44 + 43 * jq)))) (some (.int zM)) (by omega) (by rw [hP]; exact k1)
    refine ⟨f10, p4, p5, l1, ?_⟩
    rw [← l2, zN_addm (by omega), Nat.add_sub_cancel, s_X8_layFile_40]
    have hl2 : (wP Aq jq).length = (wP Aq (jq + 1) ++ tL Aq (4 + jq)).length + (tC Aq jq).length := by rw [hP, List.length_append, List.length_map]
    rw [hl2, ← k2]
    simp only [List.length_nil, Nat.add_zero, List.length_append] at j2 ⊢
    simp (disch := omega) only [s_X8_layFile_41, s_X8_layFile_44, s_X8_layFile_45, s_X8_layFile_48, s_X8_layFile_50, s_X8_layFile_51, ↓mg0, ↓mg1, ↓mg2, ↓mg3, ↓mg4, ↓mg5, ↓mg6, ↓mg7, ↓mg8, ↓mg9, ↓mg10, ↓mg11, ↓mg12, ↓mg13, ↓mg14, ↓mp0, ↓mp5, ↓mp11, ↓mp12, ↓mp13, ↓mp14, ↓ml1, ↓ml2, ↓ml3, ↓ml4, ↓ml5, ↓ml7, ↓ml8, ↓ml9, ↓mlr, ↓mt1, ↓mt2, ↓mt3, ↓mt4, ↓mt5, ↓mt7, ↓mt8, ↓mt9, ↓mlz, ↓mtz, mm_i, cond_true, cond_false, qAv, qAn, zN_neg1, nL0, nL1, nL2, nL3, nL4, nL5, nL6, nL7, nL8, nL9, nL10, nL11, nL12, nL13, nL14, nL20, nL21, nL22, nL23, nL25, nL32, nL33, nL39, nL40, nL43, nL44, nL99, nL100, nL120, nL216, nL217, nL218, nL219, nL220, nL221, nL500, nL999, nL1000, nL10000, nL100000, zN_lt0, qT_lt, qF_lt, qT_le, qF_le, qT_eq, qF_eq, ↓reduceIte, and_true, true_and, false_and, and_false, not_true_eq_false, not_false_eq_true, decide_true, decide_false, Bool.true_or, Bool.or_true, Bool.false_or, Bool.or_false, cond_true, cond_false, n_block]
    rw [j2]
    simp (disch := omega) only [s_X8_layFile_89, s_X8_layFile_90, s_X8_layFile_92, s_X8_layFile_93, s_X8_layFile_94, s_X8_layFile_95, s_X8_layFile_96, s_X8_layFile_97, ↓mg0, ↓mg1, ↓mg2, ↓mg3, ↓mg4, ↓mg5, ↓mg6, ↓mg7, ↓mg8, ↓mg9, ↓mg10, ↓mg11, ↓mg12, ↓mg13, ↓mg14, ↓mp0, ↓mp5, ↓mp11, ↓mp12, ↓mp13, ↓mp14, ↓ml1, ↓ml2, ↓ml3, ↓ml4, ↓ml5, ↓ml7, ↓ml8, ↓ml9, ↓mlr, ↓mt1, ↓mt2, ↓mt3, ↓mt4, ↓mt5, ↓mt7, ↓mt8, ↓mt9, ↓mlz, ↓mtz, mm_i, cond_true, cond_false, qAv, qAn, zN_neg1, nL0, nL1, nL2, nL3, nL4, nL5, nL6, nL7, nL8, nL9, nL10, nL11, nL12, nL13, nL14, nL20, nL21, nL22, nL23, nL25, nL32, nL33, nL39, nL40, nL43, nL44, nL99, nL100, nL120, nL216, nL217, nL218, nL219, nL220, nL221, nL500, nL999, nL1000, nL10000, nL100000, zN_add, qV_n, a0, Nat.add_zero, zN_subm]
theorem n_lf151 {ls ps : List Nat} {o4 o5 : Option Value} (h1 : 1 ≤ jr) (h3 : jr ≤ 3) (hc : Rq jr 21 = zN ls.length) (hl : lsM 22 ls (Rq jr)) (hn : ps.length + ls.length ≤ 10) : ∀ (rs l1 : List Nat) (f7 : Nat → Int32), ls = l1 ++ rs → lsM 0 (ps ++ l1) f7 → ∃ f8, lsM 0 (ps ++ ls) f8 ∧ pwX so 147 151 [some (.ref bq), some (.ref (bq + jr)), some (.int (zN (ps.length + l1.length))), some (.int (zN l1.length)), o4, o5] [] g (mkM bq sc (va_up Rq 7 f7) w) = some (.inl none, g, (mkM bq sc (va_up Rq 7 f8) w)) := by
  intro rs
  induction rs with
  | nil =>
    intro l1 f7 he hf
    rw [List.append_nil] at he
    subst he
    refine ⟨f7, hf, ?_⟩
    simp (disch := omega) only [s_X8_layFile_151, s_X8_layFile_152, s_X8_layFile_153, s_X8_layFile_155, s_X8_layFile_156, s_X8_layFile_180, ↓mg0, ↓mg1, ↓mg2, ↓mg3, ↓mg4, ↓mg5, ↓mg6, ↓mg7, ↓mg8, ↓mg9, ↓mg10, ↓mg11, ↓mg12, ↓mg13, ↓mg14, ↓mp0, ↓mp5, ↓mp11, ↓mp12, ↓mp13, ↓mp14, ↓ml1, ↓ml2, ↓ml3, ↓ml4, ↓ml5, ↓ml7, ↓ml8, ↓ml9, ↓mlr, ↓mt1, ↓mt2, ↓mt3, ↓mt4, ↓mt5, ↓mt7, ↓mt8, ↓mt9, ↓mlz, ↓mtz, mm_i, cond_true, cond_false, qAv, qAn, qV_vv, qV_s, qV_n, qU_s, qU_n, zN_neg1, nL0, nL1, nL2, nL3, nL4, nL5, nL6, nL7, nL8, nL9, nL10, nL11, nL12, nL13, nL14, nL20, nL21, nL22, nL23, nL25, nL32, nL33, nL39, nL40, nL43, nL44, nL99, nL100, nL120, nL216, nL217, nL218, nL219, nL220, nL221, nL500, nL999, nL1000, nL10000, nL100000, sh33, zN_lt, zN_le, zN_eq, zN_ge0, zN_lt0, zN_nm, zN_mn, zN_mlt, zN_ltm, zN_lem, zN_mle, zN_m1, zN_m2, zN_addm, zN_ofNat, zN_beq, zN_add, zN_sub, zN_mul, zN_rem, qT_lt, qF_lt, qT_le, qF_le, qT_eq, qF_eq, ↓reduceIte, and_true, true_and, false_and, and_false, not_true_eq_false, not_false_eq_true, decide_true, decide_false, Bool.true_or, Bool.or_true, Bool.false_or, Bool.or_false, cond_true, cond_false, hc]
  | cons aq rs ih =>
    intro l1 f7 he hf
    have hlen := congrArg List.length he
    simp only [List.length_append, List.length_cons] at hlen
    obtain ⟨f8, i1, i2⟩ := ih (l1 ++ [aq]) (upd f7 (ps.length + l1.length) (zN aq)) (by rw [List.append_assoc]; exact he) (by
      have := f_more (aq := aq) hf
      rw [List.length_append, List.append_assoc] at this
      exact this)
    refine ⟨f8, i1, ?_⟩
    have hv := hl _ _ (l_one he)
    rw [← i2, s_X8_layFile_151, List.length_append, List.length_singleton, ← Nat.add_assoc]
    simp (disch := omega) only [s_X8_layFile_152, s_X8_layFile_153, s_X8_layFile_155, s_X8_layFile_156, s_X8_layFile_159, s_X8_layFile_160, s_X8_layFile_163, s_X8_layFile_164, s_X8_layFile_165, s_X8_layFile_167, s_X8_layFile_168, s_X8_layFile_169, s_X8_layFile_170, s_X8_layFile_171, s_X8_layFile_174, s_X8_layFile_177, ↓mg0, ↓mg1, ↓mg2, ↓mg3, ↓mg4, ↓mg5, ↓mg6, ↓mg7, ↓mg8, ↓mg9, ↓mg10, ↓mg11, ↓mg12, ↓mg13, ↓mg14, ↓mp0, ↓mp5, ↓mp11, ↓mp12, ↓mp13, ↓mp14, ↓ml1, ↓ml2, ↓ml3, ↓ml4, ↓ml5, ↓ml7, ↓ml8, ↓ml9, ↓mlr, ↓mt1, ↓mt2, ↓mt3, ↓mt4, ↓mt5, ↓mt7, ↓mt8, ↓mt9, ↓mlz, ↓mtz, mm_i, cond_true, cond_false, qAv, qAn, qV_vv, qV_s, qV_n, qU_s, qU_n, zN_neg1, nL0, nL1, nL2, nL3, nL4, nL5, nL6, nL7, nL8, nL9, nL10, nL11, nL12, nL13, nL14, nL20, nL21, nL22, nL23, nL25, nL32, nL33, nL39, nL40, nL43, nL44, nL99, nL100, nL120, nL216, nL217, nL218, nL219, nL220, nL221, nL500, nL999, nL1000, nL10000, nL100000, sh33, zN_lt, zN_le, zN_eq, zN_ge0, zN_lt0, zN_nm, zN_mn, zN_mlt, zN_ltm, zN_lem, zN_mle, zN_m1, zN_m2, zN_addm, zN_ofNat, zN_beq, zN_add, zN_sub, zN_mul, zN_rem, qT_lt, qF_lt, qT_le, qF_le, qT_eq, qF_eq, ↓reduceIte, and_true, true_and, false_and, and_false, not_true_eq_false, not_false_eq_true, decide_true, decide_false, Bool.true_or, Bool.or_true, Bool.false_or, Bool.or_false, cond_true, cond_false, hc, hv]
theorem n_layFile (h1 : 1 ≤ jr) (h3 : jr ≤ 3) (hI : invT Aq) (hM : repM Aq (Rq jr)) : ∃ f7 : Nat → Int32, (∀ iq, iq < tN Aq 1 → f7 iq = zN (wF Aq iq)) ∧ pwX so 147 0 [some (.ref bq), some (.ref (bq + jr)), none, none, none, none] [] g (mkM bq sc Rq w) = some (.inl none, g, (mkM bq sc (va_up Rq 7 f7) w)) := by
  have h4 := hI.1
  have hM2 := hM
  obtain ⟨⟨m0, m43, -⟩, -, ⟨m21, mst⟩, ⟨m32, mco⟩, -⟩ := hM2
  have hcl := come_len hI
  have hsp := len_split hI (Nat.zero_le _)
  have hD : (fDn Aq 0).length = (tL Aq 1).length := by unfold fDn; rw [List.length_map]
  rw [fP_len] at hsp
  obtain ⟨f1, a1, a2⟩ := @n_lf4 so g bq jr sc Rq w (tL Aq 0) h1 h3 m32 mco (by omega) (tL Aq 0) [] (Rq 7) rfl (fun iq kq hh => by cases hh)
  obtain ⟨f2, p4, p5, b1, b2⟩ := @n_lf40 so g bq jr sc Rq w Aq h1 h3 hI hM (tN Aq 0) f1 none none (Nat.le_refl _) (by rw [wP_S]; exact a1)
  obtain ⟨f3, c1, c2⟩ := @n_lf151 so g bq jr sc Rq w (tL Aq 1) (wP Aq 0) p4 p5 h1 h3 m21 mst (by omega) (tL Aq 1) [] f2 rfl (by rw [List.append_nil]; exact b1)
  refine ⟨f3, fun iq hi => ?_, ?_⟩
  · have hw : wAll Aq = wP Aq 0 ++ tL Aq 1 := wDn_eq 0 (Nat.zero_le _)
    have := c1 iq (wF Aq iq) (by rw [← hw]; exact (wF_get hI hi).1)
    rwa [Nat.zero_add] at this
  · have e0 : va_up Rq 7 (Rq 7) = Rq := funext fun jq => by unfold va_up; split <;> simp_all
    rw [e0] at a2
    rw [wP_S] at b2
    simp only [List.length_nil, Nat.add_zero] at a2 c2
    simp (disch := omega) only [s_X8_layFile_0, s_X8_layFile_1, s_X8_layFile_2, s_X8_layFile_3, zN_neg1, nL0, nL1, nL2, nL3, nL4, nL5, nL6, nL7, nL8, nL9, nL10, nL11, nL12, nL13, nL14, nL20, nL21, nL22, nL23, nL25, nL32, nL33, nL39, nL40, nL43, nL44, nL99, nL100, nL120, nL216, nL217, nL218, nL219, nL220, nL221, nL500, nL999, nL1000, nL10000, nL100000]
    rw [a2]
    simp (disch := omega) only [s_X8_layFile_33, s_X8_layFile_34, s_X8_layFile_36, s_X8_layFile_37, s_X8_layFile_38, s_X8_layFile_39, ↓mg0, ↓mg1, ↓mg2, ↓mg3, ↓mg4, ↓mg5, ↓mg6, ↓mg7, ↓mg8, ↓mg9, ↓mg10, ↓mg11, ↓mg12, ↓mg13, ↓mg14, ↓mp0, ↓mp5, ↓mp11, ↓mp12, ↓mp13, ↓mp14, ↓ml1, ↓ml2, ↓ml3, ↓ml4, ↓ml5, ↓ml7, ↓ml8, ↓ml9, ↓mlr, ↓mt1, ↓mt2, ↓mt3, ↓mt4, ↓mt5, ↓mt7, ↓mt8, ↓mt9, ↓mlz, ↓mtz, mm_i, cond_true, cond_false, qAv, qAn, zN_neg1, nL0, nL1, nL2, nL3, nL4, nL5, nL6, nL7, nL8, nL9, nL10, nL11, nL12, nL13, nL14, nL20, nL21, nL22, nL23, nL25, nL32, nL33, nL39, nL40, nL43, nL44, nL99, nL100, nL120, nL216, nL217, nL218, nL219, nL220, nL221, nL500, nL999, nL1000, nL10000, nL100000, qV_n, m43, zN_subm]
    rw [b2, s_X8_layFile_40]
    have e2 : (zM < zN 0) = True := eq_true (by decide)
    simp (disch := omega) only [s_X8_layFile_41, s_X8_layFile_149, s_X8_layFile_150, zN_neg1, nL0, nL1, nL2, nL3, nL4, nL5, nL6, nL7, nL8, nL9, nL10, nL11, nL12, nL13, nL14, nL20, nL21, nL22, nL23, nL25, nL32, nL33, nL39, nL40, nL43, nL44, nL99, nL100, nL120, nL216, nL217, nL218, nL219, nL220, nL221, nL500, nL999, nL1000, nL10000, nL100000, ↓reduceIte, e2]
    exact c2
end QA

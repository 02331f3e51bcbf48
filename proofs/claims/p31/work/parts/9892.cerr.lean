/-! the pure part: the class tells the error's place -/
def fErrP (Fq : FS) : Nat × Int32 := (0, fErr Fq.1)
section QA
variable {so : Nat → Nat} {g : pwG} {xx tq cq : Nat} {w w1 : pwW} {lq cm nx tn wh vq : Int32} {fn fs : Nat → Int32} {sq : RS} {tx : List Nat} {Fq : FS}
theorem soW_le {t2 : Nat} (h : soW so tq w) (h2 : tq ≤ t2) : soW so t2 w := ⟨fun jq hj => by have := h.1 jq hj; omega, h.2⟩
theorem soW_fr (h : soW so xx w) (hf : frm xx w w1) : soW so xx w1 := by
  refine ⟨h.1, fun jq q9 h1 => ?_⟩
  have h2 : jq < 8 := (List.getElem?_eq_some_iff.mp h1).1
  rw [hf _ (Or.inl (h.1 jq h2))]
  exact h.2 jq q9 h1
theorem text_mr (ht : textW xx tx w) : textW xx tx (mkR (xx + 1) (zN tx.length) sq w) := by
  obtain ⟨t1, t2, cm, nx, tn, wh, fs, fn, t3, t4, t5, t6, t7⟩ := ht
  refine ⟨t1, t2, zN sq.1, zN sq.2.1, oT sq.2.2.1, (if sq.2.2.2.1 = true then zN 1 else zN 0), fs, sq.2.2.2.2, mx_0, ?_, ?_, t6, mx_2⟩
  · split
    · exact Or.inr rfl
    · exact Or.inl rfl
  · unfold mkR; rw [mx_o (by omega) (by omega)]; exact t5
theorem text_in (t3 : w (xx + 1) = .inr (5, [.int (zN tx.length), .ref (xx + 2), .ref (xx + 3), .int cm, .int nx, .int tn, .int wh])) (t7 : w (xx + 3) = .inl (0, 4, .inl fn)) : ∃ sq : RS, sq.2.2.2.1 = true ∧ va_up w (xx + 1) (.inr (5, [.int (zN tx.length), .ref (xx + 2), .ref (xx + 3), .int cm, .int nx, .int tn, .int (zN 1)])) = mkR (xx + 1) (zN tx.length) sq w := by
  obtain ⟨a1, rfl⟩ := zN_ex cm
  obtain ⟨a2, rfl⟩ := zN_ex nx
  obtain ⟨a3, rfl⟩ := oT_ex tn
  refine ⟨(a1, a2, a3, true, fn), rfl, ?_⟩
  funext aq
  by_cases h1 : aq = xx + 1
  · subst h1; rw [va_up_self]; exact mx_0.symm
  · rw [va_up_ne _ _ h1]
    by_cases h2 : aq = xx + 3
    · subst h2; rw [t7]; exact mx_2.symm
    · exact (mx_o h1 h2).symm
theorem m_first (hs : soW so xx w) (ht : textW xx tx w) : ∃ w1, textW xx tx w1 ∧ (∀ aq, aq < xx + 1 ∨ xx + 4 ≤ aq → w1 aq = w aq) ∧ pwX so 87 0 [some (.ref (xx + 1)), none] [] g w = some (.inl (some (.int (fErr tx))), g, w1) := by
  have ht2 := ht
  obtain ⟨t1, t2, cm, nx, tn, wh, fs, fn, t3, t4, t5, t6, t7⟩ := ht2
  have q1 : ∀ {jq : Nat}, pwGet w (xx + 1) 5 jq = ([.int (zN tx.length), .ref (xx + 2), .ref (xx + 3), .int cm, .int nx, .int tn, .int wh] : List Value)[jq]? := cg t3
  have i1 : pwIsC w (xx + 1) 5 = true := ci_ t3
  cases tx with
  | nil =>
    refine ⟨w, ht, fun _ _ => rfl, ?_⟩
    have e0 : fErr [] = zN 0 := rfl
    rw [e0]
    have q2 : ∀ {jq : Nat}, pwGet w (xx + 1) 5 jq = ([.int (zN 0), .ref (xx + 2), .ref (xx + 3), .int cm, .int nx, .int tn, .int wh] : List Value)[jq]? := cg t3
    simp (disch := omega) only [s_X6_firstError_0, s_X6_firstError_1, s_X6_firstError_4, s_X6_firstError_7, s_X6_firstError_8, s_X6_firstError_11, s_X6_firstError_12, s_X6_firstError_15, s_X6_firstError_17, s_X6_firstError_20, s_X6_firstError_21, zN_neg1, nL0, nL1, nL2, nL3, nL4, nL5, nL6, nL7, nL8, nL9, nL10, nL11, nL12, nL13, nL14, nL20, nL21, nL22, nL23, nL25, nL32, nL33, nL39, nL40, nL43, nL44, nL99, nL100, nL120, nL216, nL217, nL218, nL219, nL220, nL221, nL500, nL999, nL1000, nL10000, nL100000, sh33, zN_lt, zN_le, zN_eq, zN_ge0, zN_lt0, zN_nm, zN_mn, zN_mlt, zN_ltm, zN_lem, zN_mle, zN_m1, zN_m2, zN_addm, zN_ofNat, zN_beq, zN_add, zN_sub, zN_mul, zN_rem, qT_lt, qF_lt, qT_le, qF_le, qT_eq, qF_eq, ↓reduceIte, and_true, true_and, false_and, and_false, not_true_eq_false, not_false_eq_true, decide_true, decide_false, Bool.true_or, Bool.or_true, Bool.false_or, Bool.or_false, cond_true, cond_false, qAv, cond_true, Option.bind_some, List.getElem?_cons_succ, List.getElem?_cons_zero, q2]
  | cons cq cs =>
    have hc := t2 cq (List.mem_cons_self)
    have h0 : fs 0 = zN cq := t6 0 cq rfl
    have b0 : pwX so 126 0 [some (.ref (xx + 2)), some (.int (zN 0))] [] g w = some (.inl (some (.int (zN cq))), g, w) := by
      rw [q_at t5 (Or.inl rfl) (by decide), qRd_in (by omega) (by omega), h0]
    have hl : ¬ (cq :: cs).length = 0 := by rw [List.length_cons]; omega
    have n87 : (87 : Int32) = zN 87 := rfl
    unfold fErr
    dsimp only
    by_cases h1 : cq = 87
    · rw [if_pos h1]
      subst h1
      obtain ⟨s9, e1, e2⟩ := text_in t3 t7
      have p1 := pp_ (kk := 6) (vq := .int (zN 1)) t3 (by show 6 < 7; decide)
      have p2 : pwPut w (xx + 1) 5 6 (.int (zN 1)) = some (mkR (xx + 1) (zN (87 :: cs).length) s9 w) := p1.trans (congrArg some e2)
      obtain ⟨s2, f1, f2⟩ := @m_first28 so g (xx + 1) w fs (87 :: cs) (soW_le hs (by omega)) t5 t6 t1 t2 cs 1 s9 rfl (by rw [List.length_cons]; omega) (Or.inl e1)
      refine ⟨mkR (xx + 1) (zN (87 :: cs).length) s2 w, text_mr ht, fun aq ha => mx_o (by omega) (by omega), ?_⟩
      rw [← feG_w e1 cs 1]
      refine Eq.trans ?_ f2
      simp (disch := omega) only [s_X6_firstError_0, s_X6_firstError_1, s_X6_firstError_4, s_X6_firstError_7, s_X6_firstError_8, s_X6_firstError_11, s_X6_firstError_12, s_X6_firstError_15, s_X6_firstError_17, s_X6_firstError_20, s_X6_firstError_21, s_X6_firstError_22, s_X6_firstError_23, s_X6_firstError_26, s_X6_firstError_27, s_X6_beginReading_0, s_X6_beginReading_1, s_X6_beginReading_2, s_X6_beginReading_5, zN_neg1, nL0, nL1, nL2, nL3, nL4, nL5, nL6, nL7, nL8, nL9, nL10, nL11, nL12, nL13, nL14, nL20, nL21, nL22, nL23, nL25, nL32, nL33, nL39, nL40, nL43, nL44, nL99, nL100, nL120, nL216, nL217, nL218, nL219, nL220, nL221, nL500, nL999, nL1000, nL10000, nL100000, n87, sh33, zN_lt, zN_le, zN_eq, zN_ge0, zN_lt0, zN_nm, zN_mn, zN_mlt, zN_ltm, zN_lem, zN_mle, zN_m1, zN_m2, zN_addm, zN_ofNat, zN_beq, zN_add, zN_sub, zN_mul, zN_rem, qT_lt, qF_lt, qT_le, qF_le, qT_eq, qF_eq, ↓reduceIte, and_true, true_and, false_and, and_false, not_true_eq_false, not_false_eq_true, decide_true, decide_false, Bool.true_or, Bool.or_true, Bool.false_or, Bool.or_false, cond_true, cond_false, qAv, qAn, cond_true, Option.bind_some, List.getElem?_cons_succ, List.getElem?_cons_zero, q1, i1, b0, hl, p2, qbi, qb1, qb0]
    · rw [if_neg h1]
      refine ⟨w, ht, fun _ _ => rfl, ?_⟩
      simp (disch := omega) only [s_X6_firstError_0, s_X6_firstError_1, s_X6_firstError_4, s_X6_firstError_7, s_X6_firstError_8, s_X6_firstError_11, s_X6_firstError_12, s_X6_firstError_15, s_X6_firstError_17, s_X6_firstError_20, s_X6_firstError_21, zN_neg1, nL0, nL1, nL2, nL3, nL4, nL5, nL6, nL7, nL8, nL9, nL10, nL11, nL12, nL13, nL14, nL20, nL21, nL22, nL23, nL25, nL32, nL33, nL39, nL40, nL43, nL44, nL99, nL100, nL120, nL216, nL217, nL218, nL219, nL220, nL221, nL500, nL999, nL1000, nL10000, nL100000, n87, sh33, zN_lt, zN_le, zN_eq, zN_ge0, zN_lt0, zN_nm, zN_mn, zN_mlt, zN_ltm, zN_lem, zN_mle, zN_m1, zN_m2, zN_addm, zN_ofNat, zN_beq, zN_add, zN_sub, zN_mul, zN_rem, qT_lt, qF_lt, qT_le, qF_le, qT_eq, qF_eq, ↓reduceIte, and_true, true_and, false_and, and_false, not_true_eq_false, not_false_eq_true, decide_true, decide_false, Bool.true_or, Bool.or_true, Bool.false_or, Bool.or_false, cond_true, cond_false, qAv, cond_true, Option.bind_some, List.getElem?_cons_succ, List.getElem?_cons_zero, q1, b0, hl, h1]
theorem x_err (hs : soW so xx w) (hC : clsW xx Fq w) : ∃ w1, clsW xx Fq w1 ∧ frm xx w w1 ∧ pwX so 98 0 [some (.ref xx)] [] g w = some (oC (fun _ => 0) (fErrP Fq) g w1) := by
  have hg := @hx_g xx w Fq hC
  have hC2 := hC
  obtain ⟨c1, c2, c3, c4, ht, -⟩ := hC2
  have i1 : pwIsC w (xx + 1) 5 = true := by
    obtain ⟨t1, t2, cm, nx, tn, wh, fs, fn, t3, t4, t5, t6, t7⟩ := ht
    exact ci_ t3
  obtain ⟨w1, a1, a2, a3⟩ := @m_first so g xx w Fq.1 hs ht
  refine ⟨w1, cls_text hC a2 a1, fun aq h => a2 aq (by omega), ?_⟩
  show _ = some (oC _ (0, _) g _)
  rw [oC_0]
  simp (disch := omega) only [s_X7_errorPosition_0, s_X7_errorPosition_1, s_X7_errorPosition_4, s_X7_errorPosition_7, zN_neg1, nL0, nL1, nL2, nL3, nL4, nL5, nL6, nL7, nL8, nL9, nL10, nL11, nL12, nL13, nL14, nL20, nL21, nL22, nL23, nL25, nL32, nL33, nL39, nL40, nL43, nL44, nL99, nL100, nL120, nL216, nL217, nL218, nL219, nL220, nL221, nL500, nL999, nL1000, nL10000, nL100000, sh33, zN_lt, zN_le, zN_eq, zN_ge0, zN_lt0, zN_nm, zN_mn, zN_mlt, zN_ltm, zN_lem, zN_mle, zN_m1, zN_m2, zN_addm, zN_ofNat, zN_beq, zN_add, zN_sub, zN_mul, zN_rem, qT_lt, qF_lt, qT_le, qF_le, qT_eq, qF_eq, ↓reduceIte, and_true, true_and, false_and, and_false, not_true_eq_false, not_false_eq_true, decide_true, decide_false, Bool.true_or, Bool.or_true, Bool.false_or, Bool.or_false, cond_true, cond_false, qAv, cond_true, Option.bind_some, List.getElem?_cons_succ, List.getElem?_cons_zero, hg, i1, a3]
end QA

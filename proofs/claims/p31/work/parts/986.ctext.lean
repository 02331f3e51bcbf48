/-! the pure part: the class reads a text: the reading object, the ranges, a letter -/
def mkX (tq : Nat) (lq cm nx tn wh : Int32) (fn : Nat → Int32) (w : pwW) : pwW := va_up (va_up w tq (.inr (5, [.int lq, .ref (tq + 1), .ref (tq + 2), .int cm, .int nx, .int tn, .int wh]))) (tq + 2) (.inl (0, 4, .inl fn))
def soW (so : Nat → Nat) (tq : Nat) (w : pwW) : Prop := (∀ jq, jq < 8 → so jq < tq) ∧ ∀ (jq : Nat) (q9 : String × List Int32), pwRows[jq]? = some q9 → w (so jq) = .inl (4, q9.2.length, .inl fun iq => q9.2.getD iq 0)
def ltI (cq : Nat) : Nat := if cq = 119 then 0 else if cq = 115 then 1 else if cq = 98 then 2 else if cq = 114 then 3 else if cq = 109 then 4 else if cq = 120 then 5 else if cq = 116 then 6 else 7
theorem rng_sw : ∀ c9 : Fin 256, pwSwt [(98, 116), (99, 136), (100, 136), (101, 136), (102, 136), (103, 136), (104, 136), (105, 136), (106, 136), (107, 136), (108, 136), (109, 124), (110, 136), (111, 136), (112, 136), (113, 136), (114, 120), (115, 112), (116, 132), (117, 136), (118, 136), (119, 108), (120, 128)] 136 (zN c9.1) = 108 + 4 * ltI c9.1 := by decide +kernel
theorem ltI_le {cq : Nat} : ltI cq ≤ 7 := by
  unfold ltI
  repeat' split
  all_goals omega
section QA
variable {so : Nat → Nat} {g : pwG} {xx tq cq : Nat} {w w1 : pwW} {lq cm nx tn wh vq : Int32} {fn fm : Nat → Int32} {αq : Type} {hq : pwW → Option αq}
theorem mx_0 : mkX tq lq cm nx tn wh fn w tq = .inr (5, [.int lq, .ref (tq + 1), .ref (tq + 2), .int cm, .int nx, .int tn, .int wh]) := by
  unfold mkX; rw [va_up_ne _ _ (by omega), va_up_self]
theorem mx_2 : mkX tq lq cm nx tn wh fn w (tq + 2) = .inl (0, 4, .inl fn) := by
  unfold mkX; rw [va_up_self]
theorem mx_o {aq : Nat} (h : aq ≠ tq) (h2 : aq ≠ tq + 2) : mkX tq lq cm nx tn wh fn w aq = w aq := by
  unfold mkX; rw [va_up_ne _ _ h2, va_up_ne _ _ h]
theorem mx_g {jq : Nat} : pwGet (mkX tq lq cm nx tn wh fn w) tq 5 jq = ([.int lq, .ref (tq + 1), .ref (tq + 2), .int cm, .int nx, .int tn, .int wh] : List Value)[jq]? := cg mx_0
theorem mx_i : pwIsC (mkX tq lq cm nx tn wh fn w) tq 5 = true := ci_ mx_0
theorem mx_up {l2 c2 n2 t2 h2 : Int32} : va_up (mkX tq lq cm nx tn wh fn w) tq (.inr (5, [.int l2, .ref (tq + 1), .ref (tq + 2), .int c2, .int n2, .int t2, .int h2])) = mkX tq l2 c2 n2 t2 h2 fn w := by
  funext aq
  by_cases e1 : aq = tq
  · subst e1; rw [va_up_self, mx_0]
  · rw [va_up_ne _ _ e1]
    by_cases e2 : aq = tq + 2
    · subst e2; rw [mx_2, mx_2]
    · rw [mx_o e1 e2, mx_o e1 e2]
theorem mx_up2 : va_up (mkX tq lq cm nx tn wh fn w) (tq + 2) (.inl (0, 4, .inl fm)) = mkX tq lq cm nx tn wh fm w := by
  funext aq
  by_cases e2 : aq = tq + 2
  · subst e2; rw [va_up_self, mx_2]
  · rw [va_up_ne _ _ e2]
    by_cases e1 : aq = tq
    · subst e1; rw [mx_0, mx_0]
    · rw [mx_o e1 e2, mx_o e1 e2]
theorem mx_p3 : (pwPut (mkX tq lq cm nx tn wh fn w) tq 5 3 (.int vq)).bind hq = hq (mkX tq lq vq nx tn wh fn w) := by
  have h : pwPut (mkX tq lq cm nx tn wh fn w) tq 5 3 (.int vq) = some (mkX tq lq vq nx tn wh fn w) := by
    unfold pwPut; rw [mx_0]
    exact congrArg some mx_up
  rw [h]; rfl
theorem mx_p4 : (pwPut (mkX tq lq cm nx tn wh fn w) tq 5 4 (.int vq)).bind hq = hq (mkX tq lq cm vq tn wh fn w) := by
  have h : pwPut (mkX tq lq cm nx tn wh fn w) tq 5 4 (.int vq) = some (mkX tq lq cm vq tn wh fn w) := by
    unfold pwPut; rw [mx_0]
    exact congrArg some mx_up
  rw [h]; rfl
theorem mx_p5 : (pwPut (mkX tq lq cm nx tn wh fn w) tq 5 5 (.int vq)).bind hq = hq (mkX tq lq cm nx vq wh fn w) := by
  have h : pwPut (mkX tq lq cm nx tn wh fn w) tq 5 5 (.int vq) = some (mkX tq lq cm nx vq wh fn w) := by
    unfold pwPut; rw [mx_0]
    exact congrArg some mx_up
  rw [h]; rfl
theorem mx_p6 : (pwPut (mkX tq lq cm nx tn wh fn w) tq 5 6 (.int vq)).bind hq = hq (mkX tq lq cm nx tn vq fn w) := by
  have h : pwPut (mkX tq lq cm nx tn wh fn w) tq 5 6 (.int vq) = some (mkX tq lq cm nx tn vq fn w) := by
    unfold pwPut; rw [mx_0]
    exact congrArg some mx_up
  rw [h]; rfl
theorem so_mx (h : soW so tq w) : soW so tq (mkX tq lq cm nx tn wh fn w) := by
  refine ⟨h.1, fun jq q9 h1 => ?_⟩
  have h2 : jq < 8 := (List.getElem?_eq_some_iff.mp h1).1
  have h3 := h.1 jq h2
  rw [mx_o (by omega) (by omega)]
  exact h.2 jq q9 h1
/-- how long the row of a letter's ranges is -/
def rwN (jq : Nat) : Nat := if jq = 0 then 3 else if jq = 1 then 12 else if jq = 2 then 6 else if jq = 3 then 3 else if jq = 4 then 3 else if jq = 5 then 6 else if jq = 6 then 3 else 0
theorem so_len {jq : Nat} (h : soW so tq w) (hj : jq ≤ 7) : pwLen w (so jq) = some (rwN jq) := by
  have hc : jq = 0 ∨ jq = 1 ∨ jq = 2 ∨ jq = 3 ∨ jq = 4 ∨ jq = 5 ∨ jq = 6 ∨ jq = 7 := by omega
  unfold pwLen
  rcases hc with rfl | rfl | rfl | rfl | rfl | rfl | rfl | rfl
  · rw [h.2 0 _ rfl]; rfl
  · rw [h.2 1 _ rfl]; rfl
  · rw [h.2 2 _ rfl]; rfl
  · rw [h.2 3 _ rfl]; rfl
  · rw [h.2 4 _ rfl]; rfl
  · rw [h.2 5 _ rfl]; rfl
  · rw [h.2 6 _ rfl]; rfl
  · rw [h.2 7 _ rfl]; rfl
theorem m_rng (h : cq ≤ 255) : pwX so 92 0 [some (.int (zN cq))] [] g w = some (.inl (some (.ref (so (ltI cq)))), g, w) := by
  have h1 := rng_sw ⟨cq, by omega⟩
  rw [s_X6_rangesOf_0, s_X6_rangesOf_1, h1]
  have hj := @ltI_le cq
  have hc : ltI cq = 0 ∨ ltI cq = 1 ∨ ltI cq = 2 ∨ ltI cq = 3 ∨ ltI cq = 4 ∨ ltI cq = 5 ∨ ltI cq = 6 ∨ ltI cq = 7 := by omega
  rcases hc with e | e | e | e | e | e | e | e <;> (dsimp only; rw [e])
  · rw [s_X6_rangesOf_108, s_X6_rangesOf_111]
  · rw [s_X6_rangesOf_112, s_X6_rangesOf_115]
  · rw [s_X6_rangesOf_116, s_X6_rangesOf_119]
  · rw [s_X6_rangesOf_120, s_X6_rangesOf_123]
  · rw [s_X6_rangesOf_124, s_X6_rangesOf_127]
  · rw [s_X6_rangesOf_128, s_X6_rangesOf_131]
  · rw [s_X6_rangesOf_132, s_X6_rangesOf_135]
  · rw [s_X6_rangesOf_136, s_X6_rangesOf_139]
theorem rwN_0 {jq : Nat} (h : jq ≤ 7) : rwN jq = 0 ↔ jq = 7 := by
  unfold rwN
  repeat' split
  all_goals omega
theorem rwN_le {jq : Nat} : rwN jq ≤ 12 := by
  unfold rwN
  repeat' split
  all_goals omega
theorem m_takesLetter (hs : soW so tq w) (h : cq ≤ 255) : pwX so 91 0 [some (.ref tq), some (.int (zN cq))] [] g (mkX tq lq cm nx tn wh fn w) = if ltI cq = 7 then some (.inl (some (.int (zN 0))), g, (mkX tq lq cm nx tn wh fn w)) else some (.inl (some (.int (zN 1))), g, (mkX tq lq (zN cq) (zN 0) zM (zN 0) fn w)) := by
  have b0 := @m_rng so g cq (mkX tq lq cm nx tn wh fn w) h
  have b1 := so_len (so_mx (lq := lq) (cm := cm) (nx := nx) (tn := tn) (wh := wh) (fn := fn) hs) (@ltI_le cq)
  have b2 := rwN_0 (@ltI_le cq)
  have b3 := @rwN_le (ltI cq)
  by_cases h7 : ltI cq = 7
  · rw [if_pos h7]
    have h8 := b2.mpr h7
    rw [h8] at b1
    simp (disch := omega) only [s_X6_takesLetter_0, s_X6_takesLetter_1, s_X6_takesLetter_4, s_X6_takesLetter_5, s_X6_takesLetter_8, s_X6_takesLetter_9, s_X6_takesLetter_10, s_X6_takesLetter_11, s_X6_takesLetter_12, s_X6_takesLetter_15, s_X6_takesLetter_16, s_X6_takesLetter_17, s_X6_takesLetter_20, s_X6_takesLetter_21, s_X6_takesLetter_22, s_X6_takesLetter_25, s_X6_takesLetter_26, s_X6_takesLetter_27, s_X6_takesLetter_30, s_X6_takesLetter_31, zN_neg1, nL0, nL1, nL2, nL3, nL4, nL5, nL6, nL7, nL8, nL9, nL10, nL11, nL12, nL13, nL14, nL20, nL21, nL22, nL23, nL25, nL32, nL33, nL39, nL40, nL43, nL44, nL99, nL100, nL120, nL216, nL217, nL218, nL219, nL220, nL221, nL500, nL999, nL1000, nL10000, nL100000, sh33, zN_lt, zN_le, zN_eq, zN_ge0, zN_lt0, zN_nm, zN_mn, zN_mlt, zN_ltm, zN_lem, zN_mle, zN_m1, zN_m2, zN_addm, zN_ofNat, zN_beq, zN_add, zN_sub, zN_mul, zN_rem, qT_lt, qF_lt, qT_le, qF_le, qT_eq, qF_eq, ↓reduceIte, and_true, true_and, false_and, and_false, not_true_eq_false, not_false_eq_true, decide_true, decide_false, Bool.true_or, Bool.or_true, Bool.false_or, Bool.or_false, cond_true, cond_false, qAv, Option.bind_some, b0, b1, qbi, qb1, qb0]
  · rw [if_neg h7]
    have h8 : ¬ rwN (ltI cq) = 0 := fun hh => h7 (b2.mp hh)
    simp (disch := omega) only [s_X6_takesLetter_0, s_X6_takesLetter_1, s_X6_takesLetter_4, s_X6_takesLetter_5, s_X6_takesLetter_8, s_X6_takesLetter_9, s_X6_takesLetter_10, s_X6_takesLetter_11, s_X6_takesLetter_12, s_X6_takesLetter_15, s_X6_takesLetter_16, s_X6_takesLetter_17, s_X6_takesLetter_20, s_X6_takesLetter_21, s_X6_takesLetter_22, s_X6_takesLetter_25, s_X6_takesLetter_26, s_X6_takesLetter_27, s_X6_takesLetter_30, s_X6_takesLetter_31, zN_neg1, nL0, nL1, nL2, nL3, nL4, nL5, nL6, nL7, nL8, nL9, nL10, nL11, nL12, nL13, nL14, nL20, nL21, nL22, nL23, nL25, nL32, nL33, nL39, nL40, nL43, nL44, nL99, nL100, nL120, nL216, nL217, nL218, nL219, nL220, nL221, nL500, nL999, nL1000, nL10000, nL100000, sh33, zN_lt, zN_le, zN_eq, zN_ge0, zN_lt0, zN_nm, zN_mn, zN_mlt, zN_ltm, zN_lem, zN_mle, zN_m1, zN_m2, zN_addm, zN_ofNat, zN_beq, zN_add, zN_sub, zN_mul, zN_rem, qT_lt, qF_lt, qT_le, qF_le, qT_eq, qF_eq, ↓reduceIte, and_true, true_and, false_and, and_false, not_true_eq_false, not_false_eq_true, decide_true, decide_false, Bool.true_or, Bool.or_true, Bool.false_or, Bool.or_false, cond_true, cond_false, qAv, Option.bind_some, b0, b1, ↓mx_p3, ↓mx_p4, ↓mx_p5, ↓mx_p6, qbi, qb1, qb0]
end QA

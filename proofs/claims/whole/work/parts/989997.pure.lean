/-! the pure part: the law's loop, all of it -/
theorem pwSwt_mem : ∀ (ls : List (Int32 × Nat)) (d9 : Nat) (x9 : Int32), pwSwt ls d9 x9 = d9 ∨ pwSwt ls d9 x9 ∈ ls.map (fun q9 => q9.2) := by
  intro ls
  induction ls with
  | nil => intro d9 x9; exact Or.inl rfl
  | cons q9 ls ih =>
    intro d9 x9
    unfold pwSwt
    by_cases h : x9 = q9.1
    · rw [if_pos h]; exact Or.inr List.mem_cons_self
    · rw [if_neg h]
      rcases ih d9 x9 with h1 | h1
      · exact Or.inl h1
      · exact Or.inr (List.mem_cons_of_mem _ h1)
theorem sw_mem (x9 : Int32) {tq : Nat} (h : pwSwt [(0, 164), (1, 220), (2, 233), (3, 246), (4, 290), (5, 346), (6, 414), (7, 482), (8, 550), (9, 606), (10, 674), (11, 730), (12, 822), (13, 890), (14, 958), (15, 1026), (16, 1039), (17, 1107), (18, 1163), (19, 1207), (20, 1220), (21, 1288), (22, 1301), (23, 1357), (24, 1413), (25, 1513), (26, 1613), (27, 1669)] 1725 x9 = tq) : tq = 1725 ∨ tq = 164 ∨ tq = 220 ∨ tq = 233 ∨ tq = 246 ∨ tq = 290 ∨ tq = 346 ∨ tq = 414 ∨ tq = 482 ∨ tq = 550 ∨ tq = 606 ∨ tq = 674 ∨ tq = 730 ∨ tq = 822 ∨ tq = 890 ∨ tq = 958 ∨ tq = 1026 ∨ tq = 1039 ∨ tq = 1107 ∨ tq = 1163 ∨ tq = 1207 ∨ tq = 1220 ∨ tq = 1288 ∨ tq = 1301 ∨ tq = 1357 ∨ tq = 1413 ∨ tq = 1513 ∨ tq = 1613 ∨ tq = 1669 := by
  have h1 := pwSwt_mem [(0, 164), (1, 220), (2, 233), (3, 246), (4, 290), (5, 346), (6, 414), (7, 482), (8, 550), (9, 606), (10, 674), (11, 730), (12, 822), (13, 890), (14, 958), (15, 1026), (16, 1039), (17, 1107), (18, 1163), (19, 1207), (20, 1220), (21, 1288), (22, 1301), (23, 1357), (24, 1413), (25, 1513), (26, 1613), (27, 1669)] 1725 x9
  rw [h] at h1
  simp only [List.map, List.mem_cons, List.not_mem_nil, or_false] at h1
  exact h1
def kP (so : Nat → Nat) (bq L9 N9 iq : Nat) (xs : Nat → Int32) (g : pwG) (w : pwW) (o5 o6 : Option Value) (tq : Nat) : Prop := ∃ (F9 : FS) (g9 : pwG) (w9 : pwW) (p5 p6 : Option Value), LW so bq L9 N9 xs F9 w9 ∧ (g9.2.2.1 ≤ g.2.2.1 + 1 ∧ g9.2.2.2 ≤ g.2.2.2 + 6) ∧ pwX so 243 tq [some (.ref bq), some (.ref N9), some (.ref (N9 + 280)), some (.ref (N9 + 290)), some (.int (zN iq)), o5, o6] [] g w = pwX so 243 23 [some (.ref bq), some (.ref N9), some (.ref (N9 + 280)), some (.ref (N9 + 290)), some (.int (zN (iq + 5))), p5, p6] [] g9 w9
theorem z5_ : ∀ (a9 b9 : Fin 5), (zN a9.1 - zN 5 < zN b9.1) := by decide +kernel
section QA
variable {so : Nat → Nat} {g : pwG} {bq L9 N9 iq : Nat} {w : pwW} {xs : Nat → Int32} {Fq : FS} {o5 o6 : Option Value}
theorem k_none (h : LW so bq L9 N9 xs Fq w) : kP so bq L9 N9 iq xs g w o5 o6 1725 := by
  refine ⟨Fq, g, w, o5, o6, h, ⟨Nat.le_succ _, Nat.le_add_right _ _⟩, ?_⟩
  simp (disch := omega) only [s_L_law_1725, s_L_law_1728, zN_neg1, nL0, nL1, nL2, nL3, nL4, nL5, nL6, nL7, nL8, nL9, nL10, nL11, nL12, nL13, nL14, nL20, nL21, nL22, nL23, nL25, nL32, nL33, nL39, nL40, nL43, nL44, nL99, nL100, nL120, nL216, nL217, nL218, nL219, nL220, nL221, nL500, nL999, nL1000, nL10000, nL100000, zN_add]
theorem k_all (h : LW so bq L9 N9 xs Fq w) (hi : iq + 5 ≤ L9) (hL : L9 ≤ 2560) {tq : Nat} (ht : tq = 1725 ∨ tq = 164 ∨ tq = 220 ∨ tq = 233 ∨ tq = 246 ∨ tq = 290 ∨ tq = 346 ∨ tq = 414 ∨ tq = 482 ∨ tq = 550 ∨ tq = 606 ∨ tq = 674 ∨ tq = 730 ∨ tq = 822 ∨ tq = 890 ∨ tq = 958 ∨ tq = 1026 ∨ tq = 1039 ∨ tq = 1107 ∨ tq = 1163 ∨ tq = 1207 ∨ tq = 1220 ∨ tq = 1288 ∨ tq = 1301 ∨ tq = 1357 ∨ tq = 1413 ∨ tq = 1513 ∨ tq = 1613 ∨ tq = 1669) : kP so bq L9 N9 iq xs g w o5 o6 tq := by
  rcases ht with rfl | rfl | rfl | rfl | rfl | rfl | rfl | rfl | rfl | rfl | rfl | rfl | rfl | rfl | rfl | rfl | rfl | rfl | rfl | rfl | rfl | rfl | rfl | rfl | rfl | rfl | rfl | rfl | rfl
  · exact k_none h
  · exact k_append h hi hL
  · exact k_clearText h hi hL
  · exact k_errorPosition h hi hL
  · exact k_load h hi hL
  · exact k_about h hi hL
  · exact k_walkerOf h hi hL
  · exact k_streetOf h hi hL
  · exact k_cell h hi hL
  · exact k_file h hi hL
  · exact k_read h hi hL
  · exact k_walker h hi hL
  · exact k_street h hi hL
  · exact k_shift h hi hL
  · exact k_letter h hi hL
  · exact k_exchange h hi hL
  · exact k_back h hi hL
  · exact k_set h hi hL
  · exact k_ticks h hi hL
  · exact k_undo h hi hL
  · exact k_allIn h hi hL
  · exact k_later h hi hL
  · exact k_bestRule h hi hL
  · exact k_bestShift h hi hL
  · exact k_bestExchange h hi hL
  · exact k_runScript h hi hL
  · exact k_simulate h hi hL
  · exact k_save h hi hL
  · exact k_restore h hi hL
theorem k_loop (hL : L9 ≤ 2560) : ∀ (nq iq : Nat) (g : pwG) (w : pwW) (Fq : FS) (o5 o6 : Option Value), LW so bq L9 N9 xs Fq w → iq ≤ L9 → L9 - iq < nq → ∃ (g1 : pwG) (w1 : pwW), pwX so 243 23 [some (.ref bq), some (.ref N9), some (.ref (N9 + 280)), some (.ref (N9 + 290)), some (.int (zN iq)), o5, o6] [] g w = some (.inl (some (.int 1)), g1, w1) ∧ g1.2.2.1 ≤ g.2.2.1 + nq ∧ g1.2.2.2 ≤ g.2.2.2 + 6 * nq := by
  intro nq
  induction nq with
  | zero => intro iq g w Fq o5 o6 h h1 h2; omega
  | succ nq ih =>
    intro iq g w Fq o5 o6 h h1 h2
    have hb : w bq = .inl (4, L9, .inl xs) := h.2.2.2.1
    have q1 : pwLen w bq = some L9 := by unfold pwLen; rw [hb]; rfl
    by_cases h3 : iq + 5 ≤ L9
    · have e0 := ld4 hb (show iq < L9 by omega) hL
      generalize ht : pwSwt [(0, 164), (1, 220), (2, 233), (3, 246), (4, 290), (5, 346), (6, 414), (7, 482), (8, 550), (9, 606), (10, 674), (11, 730), (12, 822), (13, 890), (14, 958), (15, 1026), (16, 1039), (17, 1107), (18, 1163), (19, 1207), (20, 1220), (21, 1288), (22, 1301), (23, 1357), (24, 1413), (25, 1513), (26, 1613), (27, 1669)] 1725 (xs iq &&& 31) = tq
      obtain ⟨F9, g9, w9, p5, p6, a1, a2, a3⟩ := k_all (g := g) (o5 := o5) (o6 := o6) h h3 hL (sw_mem _ ht)
      obtain ⟨g1, w1, b1, b2, b3⟩ := ih (iq + 5) g9 w9 F9 p5 p6 a1 h3 (by omega)
      refine ⟨g1, w1, ?_, by omega, by omega⟩
      rw [← b1, ← a3, ← ht]
      rw [s_L_law_23]
      have n5 : (5 : Int32) = zN 5 := rfl
      simp (disch := omega) only [s_L_law_25, s_L_law_26, s_L_law_27, s_L_law_28, s_L_law_29, s_L_law_32, s_L_law_33, n5, zN_ofNat, zN_sub, zN_lt, qT_lt, qF_lt, qT_le, qF_le, qT_eq, qF_eq, ↓reduceIte, and_true, true_and, false_and, and_false, not_true_eq_false, not_false_eq_true, decide_true, decide_false, Bool.true_or, Bool.or_true, Bool.false_or, Bool.or_false, cond_true, cond_false, q1, e0, Option.bind_some, s_L_law_35, s_L_law_36, s_L_law_38, s_L_law_39]
    · refine ⟨g, w, ?_, Nat.le_add_right _ _, Nat.le_add_right _ _⟩
      have n5 : (5 : Int32) = zN 5 := rfl
      have hc : (zN L9 - zN 5 < zN iq) = True := by
        by_cases h5 : 5 ≤ L9
        · rw [zN_sub h5, zN_lt (by omega) (by omega)]
          exact eq_true (by omega)
        · exact eq_true (z5_ ⟨L9, by omega⟩ ⟨iq, by omega⟩)
      simp (disch := omega) only [s_L_law_23, s_L_law_25, s_L_law_26, s_L_law_27, s_L_law_28, s_L_law_29, s_L_law_1731, s_L_law_1732, n5, zN_ofNat, hc, ↓reduceIte, q1, Option.bind_some]
      rfl
end QA
theorem pwPure_ok : pwPure := by
  intro so b L N0 xs w hL hb hso hw hrows
  have e0 : pwPad 7 (pwMkl [.ref b]) = [some (.ref b), none, none, none, none, none, none] := rfl
  rw [e0]
  obtain ⟨w1, m1, o1, t1⟩ := @i_X7 so N0 1 7 (va_up w N0 (.inr (6, [.null, .null, .null, .null, .null, .null, .null]))) (va_up_self _ _ _)
  have o1 : ∀ aq, aq < N0 ∨ N0 + 280 ≤ aq → w1 aq = w aq := fun aq ha => by rw [o1 aq ha, va_up_ne _ _ (by omega)]
  have r1 : pwX so 243 0 [some (.ref b), none, none, none, none, none, none] [] (N0, 0, 0, 0) w = pwX so 243 8 [some (.ref b), some (.ref N0), none, none, none, none, none] [] (N0 + 280, 0, 280, 2762) w1 := by
    have z1 : (0 : Nat) + 1 = 1 := rfl
    have z7 : (0 : Nat) + 7 = 7 := rfl
    simp (disch := omega) only [s_L_law_0, s_L_law_3, s_L_law_4, s_L_law_7, iU_s, iU_n, qAn, cond_true, Option.bind_some, qT_lt, qF_lt, qT_le, qF_le, qT_eq, qF_eq, ↓reduceIte, and_true, true_and, false_and, and_false, not_true_eq_false, not_false_eq_true, decide_true, decide_false, Bool.true_or, Bool.or_true, Bool.false_or, Bool.or_false, cond_true, cond_false, z1, z7, t1]
  obtain ⟨R1, m2, t2⟩ := @i_X8 so (N0 + 280) 281 2777 (va_up w1 (N0 + 280) (.inr (7, [.int 0, .null, .null, .null, .null, .int 0, .null, .null, .null, .null, .null, .int 0, .int 0, .int 0, .int 0]))) (va_up_self _ _ _)
  generalize hw2 : va_up w1 (N0 + 280) (.inr (7, [.int 0, .null, .null, .null, .null, .int 0, .null, .null, .null, .null, .null, .int 0, .int 0, .int 0, .int 0])) = w2 at t2
  have o2 : ∀ aq, aq ≠ N0 + 280 → w2 aq = w1 aq := fun aq ha => by rw [← hw2]; exact va_up_ne _ _ ha
  have i2 : pwIsC w2 (N0 + 280) 7 = true := by rw [← hw2]; exact iU_s
  generalize hw3 : mkM (N0 + 280) (fun _ => 0) R1 w2 = w3 at t2
  have r2 : pwX so 243 8 [some (.ref b), some (.ref N0), none, none, none, none, none] [] (N0 + 280, 0, 280, 2762) w1 = pwX so 243 16 [some (.ref b), some (.ref N0), some (.ref (N0 + 280)), none, none, none, none] [] (N0 + 290, 0, 290, 7118) w3 := by
    simp (disch := omega) only [s_L_law_8, s_L_law_11, s_L_law_12, s_L_law_15, hw2, i2, qAn, cond_true, Option.bind_some, qT_lt, qF_lt, qT_le, qF_le, qT_eq, qF_eq, ↓reduceIte, and_true, true_and, false_and, and_false, not_true_eq_false, not_false_eq_true, decide_true, decide_false, Bool.true_or, Bool.or_true, Bool.false_or, Bool.or_false, cond_true, cond_false, t2]
  generalize hw4 : va_up w3 (N0 + 290) (.inl (1, 1, .inr (.inl (fun _ => 0)))) = w4
  have r3 : pwX so 243 16 [some (.ref b), some (.ref N0), some (.ref (N0 + 280)), none, none, none, none] [] (N0 + 290, 0, 290, 7118) w3 = pwX so 243 23 [some (.ref b), some (.ref N0), some (.ref (N0 + 280)), some (.ref (N0 + 290)), some (.int (zN 0)), none, none] [] (N0 + 291, 0, 291, 7119) w4 := by
    simp (disch := omega) only [s_L_law_16, s_L_law_17, s_L_law_19, s_L_law_20, s_L_law_21, al1, an1, qT_lt, qF_lt, qT_le, qF_le, qT_eq, qF_eq, ↓reduceIte, and_true, true_and, false_and, and_false, not_true_eq_false, not_false_eq_true, decide_true, decide_false, Bool.true_or, Bool.or_true, Bool.false_or, Bool.or_false, cond_true, cond_false, hw4, Option.bind_some]
    rfl
  have k4 : ∀ aq, aq ≠ N0 + 290 → w4 aq = w3 aq := fun aq ha => by rw [← hw4]; exact va_up_ne _ _ ha
  have k3 : ∀ aq, aq < N0 + 280 ∨ N0 + 290 ≤ aq → w3 aq = w2 aq := fun aq ha => by rw [← hw3]; exact mm_o (by omega)
  have kk : ∀ aq, aq < N0 + 280 → w4 aq = w1 aq := fun aq ha => by rw [k4 aq (by omega), k3 aq (by omega), o2 aq (by omega)]
  have h0 : LW so b L N0 xs ([], tNew, [], fun _ => none) w4 := by
    refine ⟨cls_fr (fun aq c1 c2 => kk aq (by omega)) m1, ⟨fun _ => 0, R1, ?_, m2⟩, ⟨fun _ => 0, by rw [← hw4, va_up_self]⟩, by rw [kk b (by omega), o1 b (by omega)]; exact hw, hb, hso, fun jq q9 hq => ?_⟩
    · exact mkM_cong (fun aq c1 c2 => k4 aq (by omega)) (by rw [← hw3]; exact mkM_idem)
    · have hj : jq < 8 := (List.getElem?_eq_some_iff.mp hq).1
      have hs := hso jq hj
      rw [kk _ (by omega), o1 _ (by omega)]
      exact hrows jq q9 hq
  obtain ⟨g1, w5, b1, b2, b3⟩ := k_loop (so := so) (bq := b) (L9 := L) (N9 := N0) (xs := xs) hL (L + 1) 0 (N0 + 291, 0, 291, 7119) w4 _ none none h0 (Nat.zero_le _) (by omega)
  refine ⟨g1, w5, ?_, ?_, ?_⟩
  · rw [r1, r2, r3]; exact b1
  · have b2 : g1.2.2.1 ≤ 291 + (L + 1) := b2
    omega
  · have b3 : g1.2.2.2 ≤ 7119 + 6 * (L + 1) := b3
    omega

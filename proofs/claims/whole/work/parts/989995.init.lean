/-! the pure part: construction: a town, a text, measures, a slot -/
section QA
variable {so : Nat → Nat} {g : pwG} {bq aq ci kk cz sz : Nat} {w w1 : pwW} {vq : Value} {fs : List Value} {eq : va_E}
theorem pU_s : pwPut (va_up w aq (.inr (ci, fs))) aq ci kk vq = if kk < fs.length then some (va_up w aq (.inr (ci, fs.set kk vq))) else none := by
  by_cases h : kk < fs.length
  · rw [if_pos h, pp_ (va_up_self _ _ _) h]
    congr 1
    funext jq
    by_cases hj : jq = aq
    · subst hj; rw [va_up_self, va_up_self]
    · rw [va_up_ne _ _ hj, va_up_ne _ _ hj, va_up_ne _ _ hj]
  · rw [if_neg h]
    unfold pwPut
    rw [va_up_self]
    dsimp only
    have h2 : Nat.blt kk fs.length = false := by
      cases hb : Nat.blt kk fs.length with
      | false => rfl
      | true => exact absurd (Nat.blt_eq.mp hb) h
    rw [h2, Bool.and_false]
    rfl
theorem pU_n (h : aq ≠ bq) : pwPut (va_up w bq eq) aq ci kk vq = (pwPut w aq ci kk vq).bind fun w1 => some (va_up w1 bq eq) := by
  unfold pwPut
  rw [va_up_ne _ _ h]
  cases w aq with
  | inl q9 => rfl
  | inr q9 =>
    obtain ⟨c9, f9⟩ := q9
    dsimp only
    cases (Nat.beq c9 ci && Nat.blt kk f9.length) with
    | false => rfl
    | true =>
      show some _ = some _
      congr 1
      funext jq
      by_cases h1 : jq = aq
      · subst h1; rw [va_up_self, va_up_ne _ _ h, va_up_self]
      · by_cases h2 : jq = bq
        · subst h2; rw [va_up_ne _ _ h1, va_up_self, va_up_self]
        · rw [va_up_ne _ _ h1, va_up_ne _ _ h2, va_up_ne _ _ h2, va_up_ne _ _ h1]
theorem gU_s : pwGet (va_up w aq (.inr (ci, fs))) aq ci kk = fs[kk]? := cg (va_up_self _ _ _)
theorem gU_n (h : aq ≠ bq) : pwGet (va_up w bq eq) aq ci kk = pwGet w aq ci kk := by unfold pwGet; rw [va_up_ne _ _ h]
theorem iU_s : pwIsC (va_up w aq (.inr (ci, fs))) aq ci = true := ci_ (va_up_self _ _ _)
theorem iU_n (h : aq ≠ bq) : pwIsC (va_up w bq eq) aq ci = pwIsC w aq ci := by unfold pwIsC; rw [va_up_ne _ _ h]
theorem al2 : ((0 : Int32) ≤ 2) = True := eq_true (by decide)
theorem al4 : ((0 : Int32) ≤ 4) = True := eq_true (by decide)
theorem al10 : ((0 : Int32) ≤ 10) = True := eq_true (by decide)
theorem al14 : ((0 : Int32) ≤ 14) = True := eq_true (by decide)
theorem al40 : ((0 : Int32) ≤ 40) = True := eq_true (by decide)
theorem al120 : ((0 : Int32) ≤ 120) = True := eq_true (by decide)
theorem al221 : ((0 : Int32) ≤ 221) = True := eq_true (by decide)
theorem al442 : ((0 : Int32) ≤ 442) = True := eq_true (by decide)
theorem al3094 : ((0 : Int32) ≤ 3094) = True := eq_true (by decide)
theorem al1 : ((0 : Int32) ≤ 1) = True := eq_true (by decide)
theorem ad1 {aq : Nat} : aq + 1 + 1 = aq + 2 := rfl
theorem ad2 {aq : Nat} : aq + 2 + 1 = aq + 3 := rfl
theorem ad3 {aq : Nat} : aq + 3 + 1 = aq + 4 := rfl
theorem ad4 {aq : Nat} : aq + 4 + 1 = aq + 5 := rfl
theorem ad5 {aq : Nat} : aq + 5 + 1 = aq + 6 := rfl
theorem ad6 {aq : Nat} : aq + 6 + 1 = aq + 7 := rfl
theorem ad7 {aq : Nat} : aq + 7 + 1 = aq + 8 := rfl
theorem ad8 {aq : Nat} : aq + 8 + 1 = aq + 9 := rfl
theorem ad9 {aq : Nat} : aq + 9 + 1 = aq + 10 := rfl
theorem ad10 {aq : Nat} : aq + 10 + 1 = aq + 11 := rfl
theorem ad11 {aq : Nat} : aq + 11 + 1 = aq + 12 := rfl
theorem ad12 {aq : Nat} : aq + 12 + 1 = aq + 13 := rfl
theorem ad13 {aq : Nat} : aq + 13 + 1 = aq + 14 := rfl
theorem ad14 {aq : Nat} : aq + 14 + 1 = aq + 15 := rfl
theorem ad15 {aq : Nat} : aq + 15 + 1 = aq + 16 := rfl
theorem ae1 {aq : Nat} : aq + 1 + 2 = aq + 3 := rfl
theorem ae2 {aq : Nat} : aq + 2 + 2 = aq + 4 := rfl
theorem ae3 {aq : Nat} : aq + 3 + 2 = aq + 5 := rfl
theorem ae4 {aq : Nat} : aq + 4 + 2 = aq + 6 := rfl
theorem ae5 {aq : Nat} : aq + 5 + 2 = aq + 7 := rfl
theorem ae6 {aq : Nat} : aq + 6 + 2 = aq + 8 := rfl
theorem ae7 {aq : Nat} : aq + 7 + 2 = aq + 9 := rfl
theorem ae8 {aq : Nat} : aq + 8 + 2 = aq + 10 := rfl
theorem ae9 {aq : Nat} : aq + 9 + 2 = aq + 11 := rfl
theorem ae10 {aq : Nat} : aq + 10 + 2 = aq + 12 := rfl
theorem ae11 {aq : Nat} : aq + 11 + 2 = aq + 13 := rfl
theorem ae12 {aq : Nat} : aq + 12 + 2 = aq + 14 := rfl
theorem ae13 {aq : Nat} : aq + 13 + 2 = aq + 15 := rfl
theorem an1 : (1 : Int32).toNatClampNeg = 1 := by decide
theorem an2 : (2 : Int32).toNatClampNeg = 2 := by decide
theorem an4 : (4 : Int32).toNatClampNeg = 4 := by decide
theorem an10 : (10 : Int32).toNatClampNeg = 10 := by decide
theorem an14 : (14 : Int32).toNatClampNeg = 14 := by decide
theorem an40 : (40 : Int32).toNatClampNeg = 40 := by decide
theorem an120 : (120 : Int32).toNatClampNeg = 120 := by decide
theorem an221 : (221 : Int32).toNatClampNeg = 221 := by decide
theorem an442 : (442 : Int32).toNatClampNeg = 442 := by decide
theorem an3094 : (3094 : Int32).toNatClampNeg = 3094 := by decide
theorem i_T : pwX so 34 0 [some (.ref bq)] [] (bq + 1, 0, cz, sz) (va_up w bq (.inr (4, [.null, .int 0, .int 0, .int 0, .int 0, .long 0, .null, .null, .null, .null, .null, .null]))) = some (.inl none, (bq + 15, 0, cz + 14, sz + 132), mkT bq 1 (fun _ => 0) (fun _ _ => 0) w) := by
  simp (disch := omega) only [s_X5_init_0, s_X5_init_1, s_X5_init_4, s_X5_init_5, s_X5_init_8, s_X5_init_9, s_X5_init_12, s_X5_init_15, s_X5_init_16, s_X5_init_17, s_X5_init_20, s_X5_init_21, s_X5_init_23, s_X5_init_25, s_X5_init_28, s_X5_init_29, s_X5_init_31, s_X5_init_33, s_X5_init_36, s_X5_init_37, s_X5_init_39, s_X5_init_41, s_X5_init_44, s_X5_init_45, s_X5_init_47, s_X5_init_49, s_X5_init_52, s_X5_init_53, s_X5_init_55, s_X5_init_57, s_X5_init_60, s_X5_init_61, s_X5_init_63, s_X5_init_65, s_X5_init_68, s_X4_init_0, s_X4_init_1, s_X4_init_4, s_X4_init_5, s_X4_init_6, s_X4_init_8, s_X4_init_11, s_X4_init_12, s_X4_init_13, s_X4_init_15, s_X4_init_18, s_X4_init_19, s_X4_init_20, s_X4_init_22, s_X4_init_25, s_X4_init_26, s_X4_init_27, s_X4_init_29, s_X4_init_32, s_X4_init_33, s_X4_init_34, s_X4_init_36, s_X4_init_39, s_X4_init_40, s_X4_init_41, s_X4_init_43, s_X4_init_46, s_X4_init_47, s_X4_init_49, s_X4_init_51, s_X4_init_54, pU_s, pU_n, iU_s, iU_n, al4, al10, al40, an4, an10, an40, qAn, cond_true, Option.bind_some, qT_lt, qF_lt, qT_le, qF_le, qT_eq, qF_eq, ↓reduceIte, and_true, true_and, false_and, and_false, not_true_eq_false, not_false_eq_true, decide_true, decide_false, Bool.true_or, Bool.or_true, Bool.false_or, Bool.or_false, cond_true, cond_false, List.length_cons, List.length_nil, List.length_set, ad1, ad2, ad3, ad4, ad5, ad6, ad7, ad8, ad9, ad10, ad11, ad12, ad13, ad14, ad15, ae1, ae2, ae3, ae4, ae5, ae6, ae7, ae8, ae9, ae10, ae11, ae12, ae13, List.set_cons_zero, List.set_cons_succ]
  refine congrArg some (Prod.ext rfl (Prod.ext rfl ?_))
  funext aq
  dsimp only
  by_cases h : bq ≤ aq ∧ aq < bq + 15
  · obtain ⟨jq, rfl⟩ : ∃ jq, aq = bq + jq := ⟨aq - bq, by omega⟩
    have hj : jq = 0 ∨ jq = 1 ∨ jq = 2 ∨ jq = 3 ∨ jq = 4 ∨ jq = 5 ∨ jq = 6 ∨ jq = 7 ∨ jq = 8 ∨ jq = 9 ∨ jq = 10 ∨ jq = 11 ∨ jq = 12 ∨ jq = 13 ∨ jq = 14 := by omega
    rcases hj with rfl | rfl | rfl | rfl | rfl | rfl | rfl | rfl | rfl | rfl | rfl | rfl | rfl | rfl | rfl
    · rw [show bq + 0 = bq from rfl, mkT_0]; simp (disch := omega) only [qV_s, qV_n]
    · rw [mkT_1]; simp (disch := omega) only [qV_s, qV_n]
    all_goals (rw [mkT_r (by decide) (by decide)]; simp (disch := omega) only [qV_s, qV_n]; rfl)
  · rw [mkT_o (by omega)]; simp (disch := omega) only [qV_n]
theorem tN_New {xq : Int64} {R9 : Nat → Nat → Int32} : repT tNew 1 (fun _ => 0) R9 := by
  have h := @c_makeNew (fun _ => 0) R9
  have e : (upd (upd (upd (upd (upd (fun _ => (0 : Int32)) 0 (zN 0)) 1 (zN 0)) 2 (zN 0)) 3 (zN 0)) 4 (zN 0)) = (fun _ => 0) := by
    funext jq
    unfold upd
    (repeat' split) <;> rfl
  rw [e] at h
  exact h
theorem i_T2 (h : w bq = .inr (4, [.null, .int 0, .int 0, .int 0, .int 0, .long 0, .null, .null, .null, .null, .null, .null])) : pwX so 34 0 [some (.ref bq)] [] (bq + 1, 0, cz, sz) w = some (.inl none, (bq + 15, 0, cz + 14, sz + 132), mkT bq 1 (fun _ => 0) (fun _ _ => 0) w) := by
  have e : va_up w bq (.inr (4, [.null, .int 0, .int 0, .int 0, .int 0, .long 0, .null, .null, .null, .null, .null, .null])) = w := by
    funext jq
    by_cases hj : jq = bq
    · subst hj; rw [va_up_self, h]
    · rw [va_up_ne _ _ hj]
  have h2 := @i_T so bq cz sz w
  rw [e] at h2
  exact h2
theorem i_X1 : pwX so 5 0 [some (.ref bq)] [] (bq + 1, 0, cz, sz) (va_up w bq (.inr (1, [.null]))) = some (.inl none, (bq + 2, 0, cz + 1, sz + 10), va_up (va_up w bq (.inr (1, [.ref (bq + 1)]))) (bq + 1) (.inl (0, 10, .inl fun _ => 0))) := by
  simp (disch := omega) only [s_X1_init_0, s_X1_init_1, s_X1_init_4, s_X1_init_5, s_X1_init_7, s_X1_init_9, s_X1_init_12, pU_s, pU_n, iU_s, iU_n, al10, an10, qAn, cond_true, Option.bind_some, qT_lt, qF_lt, qT_le, qF_le, qT_eq, qF_eq, ↓reduceIte, and_true, true_and, false_and, and_false, not_true_eq_false, not_false_eq_true, decide_true, decide_false, Bool.true_or, Bool.or_true, Bool.false_or, Bool.or_false, cond_true, cond_false, List.length_cons, List.length_nil, List.length_set, ad1, ad2, ad3, ad4, ad5, ad6, ad7, ad8, ad9, ad10, ad11, ad12, ad13, ad14, ad15, ae1, ae2, ae3, ae4, ae5, ae6, ae7, ae8, ae9, ae10, ae11, ae12, ae13, List.set_cons_zero, List.set_cons_succ]
theorem i_X6 : pwX so 83 0 [some (.ref bq)] [] (bq + 1, 0, cz, sz) (va_up w bq (.inr (5, [.int 0, .null, .null, .int 0, .int 0, .int 0, .int 0]))) = some (.inl none, (bq + 3, 0, cz + 2, sz + 124), va_up (va_up (va_up w bq (.inr (5, [.int 0, .ref (bq + 1), .ref (bq + 2), .int 0, .int 0, .int 0, .int 0]))) (bq + 1) (.inl (0, 120, .inl fun _ => 0))) (bq + 2) (.inl (0, 4, .inl fun _ => 0))) := by
  simp (disch := omega) only [s_X6_init_0, s_X6_init_1, s_X6_init_4, s_X6_init_5, s_X6_init_7, s_X6_init_9, s_X6_init_12, s_X6_init_13, s_X6_init_14, s_X6_init_16, s_X6_init_19, pU_s, pU_n, iU_s, iU_n, al120, al4, an120, an4, qAn, cond_true, Option.bind_some, qT_lt, qF_lt, qT_le, qF_le, qT_eq, qF_eq, ↓reduceIte, and_true, true_and, false_and, and_false, not_true_eq_false, not_false_eq_true, decide_true, decide_false, Bool.true_or, Bool.or_true, Bool.false_or, Bool.or_false, cond_true, cond_false, List.length_cons, List.length_nil, List.length_set, ad1, ad2, ad3, ad4, ad5, ad6, ad7, ad8, ad9, ad10, ad11, ad12, ad13, ad14, ad15, ae1, ae2, ae3, ae4, ae5, ae6, ae7, ae8, ae9, ae10, ae11, ae12, ae13, List.set_cons_zero, List.set_cons_succ]
theorem i_X3 : ∃ w1, pwX so 13 0 [some (.ref bq)] [] (bq + 1, 0, cz, sz) (va_up w bq (.inr (2, [.null, .int 0]))) = some (.inl none, (bq + 16, 0, cz + 15, sz + 144), w1) ∧ slotW bq none w1 ∧ ∀ aq, aq < bq ∨ bq + 16 ≤ aq → w1 aq = w aq := by
  have h := @i_T so (bq + 1) (cz + 1) (sz + 12) (va_up w bq (.inr (2, [.null, .int 0])))
  have g0 : mkT (bq + 1) 1 (fun _ => 0) (fun _ _ => 0) (va_up w bq (.inr (2, [.null, .int 0]))) bq = .inr (2, [.null, .int 0]) := by rw [mkT_o (by omega), va_up_self]
  have p1 := pp_ (kk := 0) (vq := .ref (bq + 1)) g0 (by show 0 < 2; decide)
  refine ⟨va_up (mkT (bq + 1) 1 (fun _ => 0) (fun _ _ => 0) (va_up w bq (.inr (2, [.null, .int 0])))) bq (.inr (2, [.ref (bq + 1), .int 0])), ?_, ?_, ?_⟩
  · have i4 := @i_T so (bq + 1) (cz + 1) (sz + 12) (va_up w bq (.inr (2, [.null, .int 0])))
    have e1 : bq + 1 + 1 = bq + 2 := rfl
    simp (disch := omega) only [s_X3_init_0, s_X3_init_1, s_X3_init_4, s_X3_init_5, s_X3_init_8, s_X3_init_9, s_X3_init_12, s_X3_init_15, iU_s, iU_n, qAn, cond_true, Option.bind_some, qT_lt, qF_lt, qT_le, qF_le, qT_eq, qF_eq, ↓reduceIte, and_true, true_and, false_and, and_false, not_true_eq_false, not_false_eq_true, decide_true, decide_false, Bool.true_or, Bool.or_true, Bool.false_or, Bool.or_false, cond_true, cond_false, i4, p1]
    rfl
  · exact ⟨0, va_up_self _ _ _, tAny_fr (fun aq a c => va_up_ne _ _ (by omega)) tAny_mk, rfl⟩
  · intro aq ha
    rw [va_up_ne _ _ (by omega), mkT_o (by omega), va_up_ne _ _ (by omega)]
end QA

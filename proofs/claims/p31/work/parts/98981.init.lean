/-! the pure part: construction: a town, a text, measures, a slot -/
section QA
variable {so : Nat → Nat} {g : pwG} {bq aq ci kk cz sz : Nat} {w w1 : pwW} {vq : Value} {fs : List Value} {eq : va_E}
theorem pU_s : pwPut (va_up w aq (.inr (ci, fs))) aq ci kk vq = if kk < fs.length then some (va_up w aq (.inr (ci, fs.set kk vq))) else none := by
  by_cases h : kk < fs.length
  · rw [if_pos h, pp_ (va_up_self _ _ _) h]
    congr 1
    funext jq
    by_cases hj : jq = aq
    · subst hj; rw [va_up_self, va_up_self]
    · rw [va_up_ne _ _ hj, va_up_ne _ _ hj, va_up_ne _ _ hj]
  · rw [if_neg h]
    unfold pwPut
    rw [va_up_self]
    dsimp only
    have h2 : Nat.blt kk fs.length = false := by
      cases hb : Nat.blt kk fs.length with
      | false => rfl
      | true => exact absurd (Nat.blt_eq.mp hb) h
    rw [h2, Bool.and_false]
    rfl
theorem pU_n (h : aq ≠ bq) : pwPut (va_up w bq eq) aq ci kk vq = (pwPut w aq ci kk vq).bind fun w1 => some (va_up w1 bq eq) := by
  unfold pwPut
  rw [va_up_ne _ _ h]
  cases w aq with
  | inl q9 => rfl
  | inr q9 =>
    obtain ⟨c9, f9⟩ := q9
    dsimp only
    cases (Nat.beq c9 ci && Nat.blt kk f9.length) with
    | false => rfl
    | true =>
      show some _ = some _
      congr 1
      funext jq
      by_cases h1 : jq = aq
      · subst h1; rw [va_up_self, va_up_ne _ _ h, va_up_self]
      · by_cases h2 : jq = bq
        · subst h2; rw [va_up_ne _ _ h1, va_up_self, va_up_self]
        · rw [va_up_ne _ _ h1, va_up_ne _ _ h2, va_up_ne _ _ h2, va_up_ne _ _ h1]
theorem gU_s : pwGet (va_up w aq (.inr (ci, fs))) aq ci kk = fs[kk]? := cg (va_up_self _ _ _)
theorem gU_n (h : aq ≠ bq) : pwGet (va_up w bq eq) aq ci kk = pwGet w aq ci kk := by unfold pwGet; rw [va_up_ne _ _ h]
theorem iU_s : pwIsC (va_up w aq (.inr (ci, fs))) aq ci = true := ci_ (va_up_self _ _ _)
theorem iU_n (h : aq ≠ bq) : pwIsC (va_up w bq eq) aq ci = pwIsC w aq ci := by unfold pwIsC; rw [va_up_ne _ _ h]
theorem al2 : ((0 : Int32) ≤ 2) = True := eq_true (by decide)
theorem al4 : ((0 : Int32) ≤ 4) = True := eq_true (by decide)
theorem al10 : ((0 : Int32) ≤ 10) = True := eq_true (by decide)
theorem al14 : ((0 : Int32) ≤ 14) = True := eq_true (by decide)
theorem al40 : ((0 : Int32) ≤ 40) = True := eq_true (by decide)
theorem al120 : ((0 : Int32) ≤ 120) = True := eq_true (by decide)
theorem al221 : ((0 : Int32) ≤ 221) = True := eq_true (by decide)
theorem al442 : ((0 : Int32) ≤ 442) = True := eq_true (by decide)
theorem al3094 : ((0 : Int32) ≤ 3094) = True := eq_true (by decide)
theorem al1 : ((0 : Int32) ≤ 1) = True := eq_true (by decide)
theorem ad1 {aq : Nat} : aq + 1 + 1 = aq + 2 := rfl
theorem ad2 {aq : Nat} : aq + 2 + 1 = aq + 3 := rfl
theorem ad3 {aq : Nat} : aq + 3 + 1 = aq + 4 := rfl
theorem ad4 {aq : Nat} : aq + 4 + 1 = aq + 5 := rfl
theorem ad5 {aq : Nat} : aq + 5 + 1 = aq + 6 := rfl
theorem ad6 {aq : Nat} : aq + 6 + 1 = aq + 7 := rfl
theorem ad7 {aq : Nat} : aq + 7 + 1 = aq + 8 := rfl
theorem ad8 {aq : Nat} : aq + 8 + 1 = aq + 9 := rfl
theorem ad9 {aq : Nat} : aq + 9 + 1 = aq + 10 := rfl
theorem ad10 {aq : Nat} : aq + 10 + 1 = aq + 11 := rfl
theorem ad11 {aq : Nat} : aq + 11 + 1 = aq + 12 := rfl
theorem ad12 {aq : Nat} : aq + 12 + 1 = aq + 13 := rfl
theorem ad13 {aq : Nat} : aq + 13 + 1 = aq + 14 := rfl
theorem ad14 {aq : Nat} : aq + 14 + 1 = aq + 15 := rfl
theorem ad15 {aq : Nat} : aq + 15 + 1 = aq + 16 := rfl
theorem ae1 {aq : Nat} : aq + 1 + 2 = aq + 3 := rfl
theorem ae2 {aq : Nat} : aq + 2 + 2 = aq + 4 := rfl
theorem ae3 {aq : Nat} : aq + 3 + 2 = aq + 5 := rfl
theorem ae4 {aq : Nat} : aq + 4 + 2 = aq + 6 := rfl
theorem ae5 {aq : Nat} : aq + 5 + 2 = aq + 7 := rfl
theorem ae6 {aq : Nat} : aq + 6 + 2 = aq + 8 := rfl
theorem ae7 {aq : Nat} : aq + 7 + 2 = aq + 9 := rfl
theorem ae8 {aq : Nat} : aq + 8 + 2 = aq + 10 := rfl
theorem ae9 {aq : Nat} : aq + 9 + 2 = aq + 11 := rfl
theorem ae10 {aq : Nat} : aq + 10 + 2 = aq + 12 := rfl
theorem ae11 {aq : Nat} : aq + 11 + 2 = aq + 13 := rfl
theorem ae12 {aq : Nat} : aq + 12 + 2 = aq + 14 := rfl
theorem ae13 {aq : Nat} : aq + 13 + 2 = aq + 15 := rfl
theorem an1 : (1 : Int32).toNatClampNeg = 1 := by decide
theorem an2 : (2 : Int32).toNatClampNeg = 2 := by decide
theorem an4 : (4 : Int32).toNatClampNeg = 4 := by decide
theorem an10 : (10 : Int32).toNatClampNeg = 10 := by decide
theorem an14 : (14 : Int32).toNatClampNeg = 14 := by decide
theorem an40 : (40 : Int32).toNatClampNeg = 40 := by decide
theorem an120 : (120 : Int32).toNatClampNeg = 120 := by decide
theorem an221 : (221 : Int32).toNatClampNeg = 221 := by decide
theorem an442 : (442 : Int32).toNatClampNeg = 442 := by decide
theorem an3094 : (3094 : Int32).toNatClampNeg = 3094 := by decide
theorem i_T : pwX so 34 0 [some (.ref bq)] [] (bq + 1, 0, cz, sz) (va_up w bq (.inr (4, [.null, .int 0, .int 0, .int 0, .int 0, .long 0, .null, .null, .null, .null, .null, .null]))) = some (.inl none, (bq + 15, 0, cz + 14, sz + 132), mkT bq 1 (fun _ => 0) (fun _ _ => 0) w) := by
  simp (disch := omega) only [s_X5_init_0, s_X5_init_1, s_X5_init_4, s_X5_init_5, s_X5_init_8, s_X5_init_9, s_X5_init_12, s_X5_init_15, s_X5_init_16, s_X5_init_17, s_X5_init_20, s_X5_init_21, s_X5_init_23, s_X5_init_25, s_X5_init_28, s_X5_init_29, s_X5_init_31, s_X5_init_33, s_X5_init_36, s_X5_init_37, s_X5_init_39, s_X5_init_41, s_X5_init_44, s_X5_init_45, s_X5_init_47, s_X5_init_49, s_X5_init_52, s_X5_init_53, s_X5_init_55, s_X5_init_57, s_X5_init_60, s_X5_init_61, s_X5_init_63, s_X5_init_65, s_X5_init_68, s_X4_init_0, s_X4_init_1, s_X4_init_4, s_X4_init_5, s_X4_init_6, s_X4_init_8, s_X4_init_11, s_X4_init_12, s_X4_init_13, s_X4_init_15, s_X4_init_18, s_X4_init_19, s_X4_init_20, s_X4_init_22, s_X4_init_25, s_X4_init_26, s_X4_init_27, s_X4_init_29, s_X4_init_32, s_X4_init_33, s_X4_init_34, s_X4_init_36, s_X4_init_39, s_X4_init_40, s_X4_init_41, s_X4_init_43, s_X4_init_46, s_X4_init_47, s_X4_init_49, s_X4_init_51, s_X4_init_54, pU_s, pU_n, iU_s, iU_n, al4, al10, al40, an4, an10, an40, qAn, cond_true, Option.bind_some, qT_lt, qF_lt, qT_le, qF_le, qT_eq, qF_eq, ↓reduceIte, and_true, true_and, false_and, and_false, not_true_eq_false, not_false_eq_true, decide_true, decide_false, Bool.true_or, Bool.or_true, Bool.false_or, Bool.or_false, cond_true, cond_false, List.length_cons, List.length_nil, List.length_set, ad1, ad2, ad3, ad4, ad5, ad6, ad7, ad8, ad9, ad10, ad11, ad12, ad13, ad14, ad15, ae1, ae2, ae3, ae4, ae5, ae6, ae7, ae8, ae9, ae10, ae11, ae12, ae13, List.set_cons_zero, List.set_cons_succ]
  refine congrArg some (Prod.ext rfl (Prod.ext rfl ?_))
  funext aq
  dsimp only
  by_cases h : bq ≤ aq ∧ aq < bq + 15
  · obtain ⟨jq, rfl⟩ : ∃ jq, aq = bq + jq := ⟨aq - bq, by omega⟩
    have hj : jq = 0 ∨ jq = 1 ∨ jq = 2 ∨ jq = 3 ∨ jq = 4 ∨ jq = 5 ∨ jq = 6 ∨ jq = 7 ∨ jq = 8 ∨ jq = 9 ∨ jq = 10 ∨ jq = 11 ∨ jq = 12 ∨ jq = 13 ∨ jq = 14 := by omega
    rcases hj with rfl | rfl | rfl | rfl | rfl | rfl | rfl | rfl | rfl | rfl | rfl | rfl | rfl | rfl | rfl
    · rw [show bq + 0 = bq from rfl, mkT_0]; simp (disch := omega) only [qV_s, qV_n]
    · rw [mkT_1]; simp (disch := omega) only [qV_s, qV_n]
    all_goals (rw [mkT_r (by decide) (by decide)]; simp (disch := omega) only [qV_s, qV_n]; rfl)
  · rw [mkT_o (by omega)]; simp (disch := omega) only [qV_n]
theorem tN_New {xq : Int64} {R9 : Nat → Nat → Int32} : repT tNew 1 (fun _ => 0) R9 := by
  have h := @c_makeNew (fun _ => 0) R9
  have e : (upd (upd (upd (upd (upd (fun _ => (0 : Int32)) 0 (zN 0)) 1 (zN 0)) 2 (zN 0)) 3 (zN 0)) 4 (zN 0)) = (fun _ => 0) := by
    funext jq
    unfold upd
    (repeat' split) <;> rfl
  rw [e] at h
  exact h
theorem i_T2 (h : w bq = .inr (4, [.null, .int 0, .int 0, .int 0, .int 0, .long 0, .null, .null, .null, .null, .null, .null])) : pwX so 34 0 [some (.ref bq)] [] (bq + 1, 0, cz, sz) w = some (.inl none, (bq + 15, 0, cz + 14, sz + 132), mkT bq 1 (fun _ => 0) (fun _ _ => 0) w) := by
  have e : va_up w bq (.inr (4, [.null, .int 0, .int 0, .int 0, .int 0, .long 0, .null, .null, .null, .null, .null, .null])) = w := by
    funext jq
    by_cases hj : jq = bq
    · subst hj; rw [va_up_self, h]
    · rw [va_up_ne _ _ hj]
  have h2 := @i_T so bq cz sz w
  rw [e] at h2
  exact h2
theorem i_X1 : pwX so 5 0 [some (.ref bq)] [] (bq + 1, 0, cz, sz) (va_up w bq (.inr (1, [.null]))) = some (.inl none, (bq + 2, 0, cz + 1, sz + 10), va_up (va_up w bq (.inr (1, [.ref (bq + 1)]))) (bq + 1) (.inl (0, 10, .inl fun _ => 0))) := by
  simp (disch := omega) only [s_X1_init_0, s_X1_init_1, s_X1_init_4, s_X1_init_5, s_X1_init_7, s_X1_init_9, s_X1_init_12, pU_s, pU_n, iU_s, iU_n, al10, an10, qAn, cond_true, Option.bind_some, qT_lt, qF_lt, qT_le, qF_le, qT_eq, qF_eq, ↓reduceIte, and_true, true_and, false_and, and_false, not_true_eq_false, not_false_eq_true, decide_true, decide_false, Bool.true_or, Bool.or_true, Bool.false_or, Bool.or_false, cond_true, cond_false, List.length_cons, List.length_nil, List.length_set, ad1, ad2, ad3, ad4, ad5, ad6, ad7, ad8, ad9, ad10, ad11, ad12, ad13, ad14, ad15, ae1, ae2, ae3, ae4, ae5, ae6, ae7, ae8, ae9, ae10, ae11, ae12, ae13, List.set_cons_zero, List.set_cons_succ]
theorem i_X6 : pwX so 83 0 [some (.ref bq)] [] (bq + 1, 0, cz, sz) (va_up w bq (.inr (5, [.int 0, .null, .null, .int 0, .int 0, .int 0, .int 0]))) = some (.inl none, (bq + 3, 0, cz + 2, sz + 124), va_up (va_up (va_up w bq (.inr (5, [.int 0, .ref (bq + 1), .ref (bq + 2), .int 0, .int 0, .int 0, .int 0]))) (bq + 1) (.inl (0, 120, .inl fun _ => 0))) (bq + 2) (.inl (0, 4, .inl fun _ => 0))) := by
  simp (disch := omega) only [s_X6_init_0, s_X6_init_1, s_X6_init_4, s_X6_init_5, s_X6_init_7, s_X6_init_9, s_X6_init_12, s_X6_init_13, s_X6_init_14, s_X6_init_16, s_X6_init_19, pU_s, pU_n, iU_s, iU_n, al120, al4, an120, an4, qAn, cond_true, Option.bind_some, qT_lt, qF_lt, qT_le, qF_le, qT_eq, qF_eq, ↓reduceIte, and_true, true_and, false_and, and_false, not_true_eq_false, not_false_eq_true, decide_true, decide_false, Bool.true_or, Bool.or_true, Bool.false_or, Bool.or_false, cond_true, cond_false, List.length_cons, List.length_nil, List.length_set, ad1, ad2, ad3, ad4, ad5, ad6, ad7, ad8, ad9, ad10, ad11, ad12, ad13, ad14, ad15, ae1, ae2, ae3, ae4, ae5, ae6, ae7, ae8, ae9, ae10, ae11, ae12, ae13, List.set_cons_zero, List.set_cons_succ]
theorem i_X3 : ∃ w1, pwX so 13 0 [some (.ref bq)] [] (bq + 1, 0, cz, sz) (va_up w bq (.inr (2, [.null, .int 0]))) = some (.inl none, (bq + 16, 0, cz + 15, sz + 144), w1) ∧ slotW bq none w1 ∧ ∀ aq, aq < bq ∨ bq + 16 ≤ aq → w1 aq = w aq := by
  have h := @i_T so (bq + 1) (cz + 1) (sz + 12) (va_up w bq (.inr (2, [.null, .int 0])))
  have g0 : mkT (bq + 1) 1 (fun _ => 0) (fun _ _ => 0) (va_up w bq (.inr (2, [.null, .int 0]))) bq = .inr (2, [.null, .int 0]) := by rw [mkT_o (by omega), va_up_self]
  have p1 := pp_ (kk := 0) (vq := .ref (bq + 1)) g0 (by show 0 < 2; decide)
  refine ⟨va_up (mkT (bq + 1) 1 (fun _ => 0) (fun _ _ => 0) (va_up w bq (.inr (2, [.null, .int 0])))) bq (.inr (2, [.ref (bq + 1), .int 0])), ?_, ?_, ?_⟩
  · have i4 := @i_T so (bq + 1) (cz + 1) (sz + 12) (va_up w bq (.inr (2, [.null, .int 0])))
    have e1 : bq + 1 + 1 = bq + 2 := rfl
    simp (disch := omega) only [s_X3_init_0, s_X3_init_1, s_X3_init_4, s_X3_init_5, s_X3_init_8, s_X3_init_9, s_X3_init_12, s_X3_init_15, iU_s, iU_n, qAn, cond_true, Option.bind_some, qT_lt, qF_lt, qT_le, qF_le, qT_eq, qF_eq, ↓reduceIte, and_true, true_and, false_and, and_false, not_true_eq_false, not_false_eq_true, decide_true, decide_false, Bool.true_or, Bool.or_true, Bool.false_or, Bool.or_false, cond_true, cond_false, i4, p1]
    rfl
  · exact ⟨0, va_up_self _ _ _, tAny_fr (fun aq a c => va_up_ne _ _ (by omega)) tAny_mk, rfl⟩
  · intro aq ha
    rw [va_up_ne _ _ (by omega), mkT_o (by omega), va_up_ne _ _ (by omega)]
end QA
section QA
variable {so : Nat → Nat} {g : pwG} {xx bq cz sz : Nat} {w w1 : pwW}
theorem stQ {aq iq xq : Nat} {fz : Nat → Option Nat} (h : w aq = .inl (3, 14, .inr (.inr (.inr (.inr fz))))) (hi : iq < 14) (hx : pwIsC w xq 4 = true) : pwStQ w aq (zN iq) xq = some (va_up w aq (.inl (3, 14, .inr (.inr (.inr (.inr (va_up fz iq (some xq)))))))) := by
  unfold pwStQ
  rw [h]
  dsimp only
  rw [if_pos ⟨⟨rfl, hx⟩, qIn_of hi (by omega)⟩, zN_nat (by omega)]
theorem i_H15 : ∀ (dq iq cz sz : Nat) (w : pwW) (fz : Nat → Option Nat), iq + dq = 14 → w bq = .inr (0, [.int 0, .ref (bq + 1), .int 0]) → w (bq + 1) = .inl (3, 14, .inr (.inr (.inr (.inr fz)))) → (∀ jq, jq < iq → fz jq = some (bq + 2 + 15 * jq)) → (∀ jq, jq < iq → tAny (bq + 2 + 15 * jq) w) → ∃ (w1 : pwW) (f1 : Nat → Option Nat), w1 bq = .inr (0, [.int 0, .ref (bq + 1), .int 0]) ∧ w1 (bq + 1) = .inl (3, 14, .inr (.inr (.inr (.inr f1)))) ∧ (∀ jq, jq < 14 → f1 jq = some (bq + 2 + 15 * jq)) ∧ (∀ jq, jq < 14 → tAny (bq + 2 + 15 * jq) w1) ∧ (∀ aq, aq < bq ∨ bq + 212 ≤ aq → w1 aq = w aq) ∧ pwX so 0 15 [some (.ref bq), some (.int (zN iq))] [] (bq + 2 + 15 * iq, 0, cz, sz) w = some (.inl none, (bq + 212, 0, cz + 15 * dq, sz + 144 * dq), w1) := by
  intro dq
  induction dq with
  | zero =>
    intro iq cz sz w fz h1 h2 h3 h4 h5
    have h1 : iq = 14 := by omega
    subst h1
    have q1 : pwGet w bq 0 1 = some (.ref (bq + 1)) := cg h2
    have q2 : pwLen w (bq + 1) = some 14 := by unfold pwLen; rw [h3]; rfl
    refine ⟨w, fz, h2, h3, h4, h5, fun _ _ => rfl, ?_⟩
    simp (disch := omega) only [s_X0_init_0, s_X0_init_1, s_X0_init_4, s_X0_init_5, s_X0_init_7, s_X0_init_10, s_X0_init_13, s_X0_init_14, s_X0_init_15, s_X0_init_16, s_X0_init_17, s_X0_init_20, s_X0_init_21, s_X0_init_24, s_X0_init_25, s_X0_init_28, s_X0_init_29, s_X0_init_32, s_X0_init_33, s_X0_init_36, s_X0_init_37, s_X0_init_40, s_X0_init_43, zN_neg1, nL0, nL1, nL2, nL3, nL4, nL5, nL6, nL7, nL8, nL9, nL10, nL11, nL12, nL13, nL14, nL20, nL21, nL22, nL23, nL25, nL32, nL33, nL39, nL40, nL43, nL44, nL99, nL100, nL120, nL216, nL217, nL218, nL219, nL220, nL221, nL500, nL999, nL1000, nL10000, nL100000, sh33, zN_lt, zN_le, zN_eq, zN_ge0, zN_lt0, zN_nm, zN_mn, zN_mlt, zN_ltm, zN_lem, zN_mle, zN_m1, zN_m2, zN_addm, zN_ofNat, zN_beq, zN_add, zN_sub, zN_mul, zN_rem, qT_lt, qF_lt, qT_le, qF_le, qT_eq, qF_eq, ↓reduceIte, and_true, true_and, false_and, and_false, not_true_eq_false, not_false_eq_true, decide_true, decide_false, Bool.true_or, Bool.or_true, Bool.false_or, Bool.or_false, cond_true, cond_false, q1, q2, Option.bind_some]
    rfl
  | succ dq ih =>
    intro iq cz sz w fz h1 h2 h3 h4 h5
    have q1 : pwGet w bq 0 1 = some (.ref (bq + 1)) := cg h2
    have q2 : pwLen w (bq + 1) = some 14 := by unfold pwLen; rw [h3]; rfl
    generalize hb : bq + 2 + 15 * iq = bz
    have i4 := @i_T so bz (cz + 1) (sz + 12) w
    generalize hw2 : mkT bz 1 (fun _ => 0) (fun _ _ => 0) w = w2 at i4
    have ho : ∀ aq, aq < bz ∨ bz + 15 ≤ aq → w2 aq = w aq := fun aq ha => by rw [← hw2]; exact mkT_o ha
    have it : pwIsC w2 bz 4 = true := by rw [← hw2]; exact mkT_i
    have h32 : w2 (bq + 1) = .inl (3, 14, .inr (.inr (.inr (.inr fz)))) := by rw [ho _ (by omega)]; exact h3
    have p1 := stQ h32 (show iq < 14 by omega) it
    generalize hw3 : va_up w2 (bq + 1) (.inl (3, 14, .inr (.inr (.inr (.inr (va_up fz iq (some bz))))))) = w3 at p1
    have ho3 : ∀ aq, aq ≠ bq + 1 → w3 aq = w2 aq := fun aq ha => by rw [← hw3]; exact va_up_ne _ _ ha
    obtain ⟨w4, f4, a1, a2, a3, a4, a5, a6⟩ := ih (iq + 1) (cz + 15) (sz + 144) w3 (va_up fz iq (some bz)) (by omega) (by rw [ho3 _ (by omega), ho _ (by omega)]; exact h2) (by rw [← hw3, va_up_self]) (fun jq hj => by
      by_cases hx : jq = iq
      · subst hx; rw [va_up_self, hb]
      · rw [va_up_ne _ _ hx]; exact h4 jq (by omega)) (fun jq hj => by
      by_cases hx : jq = iq
      · subst hx
        rw [hb]
        exact tAny_fr (fun aq c1 c2 => ho3 aq (by omega)) (by rw [← hw2]; exact tAny_mk)
      · exact tAny_fr (fun aq c1 c2 => by rw [ho3 aq (by omega), ho aq (by omega)]) (h5 jq (by omega)))
    refine ⟨w4, f4, a1, a2, a3, a4, fun aq ha => by rw [a5 aq ha, ho3 aq (by omega), ho aq (by omega)], ?_⟩
    have e1 : cz + 15 * (dq + 1) = cz + 15 + 15 * dq := by omega
    have e2 : sz + 144 * (dq + 1) = sz + 144 + 144 * dq := by omega
    rw [e1, e2, ← a6, s_X0_init_15]
    have e3 : bq + 2 + 15 * (iq + 1) = bz + 15 := by omega
    rw [e3]
    simp (disch := omega) only [s_X0_init_0, s_X0_init_1, s_X0_init_4, s_X0_init_5, s_X0_init_7, s_X0_init_10, s_X0_init_13, s_X0_init_14, s_X0_init_16, s_X0_init_17, s_X0_init_20, s_X0_init_21, s_X0_init_24, s_X0_init_25, s_X0_init_28, s_X0_init_29, s_X0_init_32, s_X0_init_33, s_X0_init_36, s_X0_init_37, s_X0_init_40, s_X0_init_43, zN_ofNat, nL1, zN_le, zN_add, qT_lt, qF_lt, qT_le, qF_le, qT_eq, qF_eq, ↓reduceIte, and_true, true_and, false_and, and_false, not_true_eq_false, not_false_eq_true, decide_true, decide_false, Bool.true_or, Bool.or_true, Bool.false_or, Bool.or_false, cond_true, cond_false, q1, q2, Option.bind_some, iU_s, cond_true, i4, qAn, p1]
theorem i_H (h : w (xx + 36) = .inr (0, [.int 0, .null, .int 0])) : ∃ (w1 : pwW), histW xx [] w1 ∧ (∀ aq, aq < xx + 36 ∨ xx + 248 ≤ aq → w1 aq = w aq) ∧ pwX so 0 0 [some (.ref (xx + 36)), none] [] (xx + 37, 0, cz, sz) w = some (.inl none, (xx + 248, 0, cz + 211, sz + 2030), w1) := by
  have h2 : va_up w (xx + 37) (.inl (3, 14, .inr (.inr (.inr (.inr (fun _ => none)))))) (xx + 36) = .inr (0, [.int 0, .null, .int 0]) := by rw [va_up_ne _ _ (by omega)]; exact h
  have p1 := pp_ (kk := 1) (vq := .ref (xx + 37)) h2 (by show 1 < 3; decide)
  generalize hw3 : va_up (va_up w (xx + 37) (.inl (3, 14, .inr (.inr (.inr (.inr (fun _ => none))))))) (xx + 36) (.inr (0, [.int 0, .ref (xx + 37), .int 0])) = w3
  have p2 : pwPut (va_up w (xx + 37) (.inl (3, 14, .inr (.inr (.inr (.inr (fun _ => none))))))) (xx + 36) 0 1 (.ref (xx + 37)) = some w3 := p1.trans (congrArg some hw3)
  obtain ⟨w4, f4, a1, a2, a3, a4, a5, a6⟩ := @i_H15 so (xx + 36) 14 0 (cz + 1) (sz + 14) w3 (fun _ => none) (by omega) (by rw [← hw3, va_up_self]) (by rw [← hw3, va_up_ne _ _ (by omega), va_up_self]) (fun jq hj => by omega) (fun jq hj => by omega)
  refine ⟨w4, ⟨Nat.zero_le _, 0, by decide, a1, ⟨f4, a2, a3⟩, a4, fun iq Aq hh => (by cases hh)⟩, fun aq ha => by rw [a5 aq (by omega), ← hw3, va_up_ne _ _ (by omega), va_up_ne _ _ (by omega)], ?_⟩
  refine Eq.trans ?_ (a6.trans rfl)
  have al : ((0 : Int32) ≤ 14) = True := al14
  simp (disch := omega) only [s_X0_init_0, s_X0_init_1, s_X0_init_4, s_X0_init_5, s_X0_init_7, s_X0_init_10, s_X0_init_13, s_X0_init_14, al14, an14, qT_lt, qF_lt, qT_le, qF_le, qT_eq, qF_eq, ↓reduceIte, and_true, true_and, false_and, and_false, not_true_eq_false, not_false_eq_true, decide_true, decide_false, Bool.true_or, Bool.or_true, Bool.false_or, Bool.or_false, cond_true, cond_false, p2, Option.bind_some]
  rfl
theorem i_X7 (h : w xx = .inr (6, [.null, .null, .null, .null, .null, .null, .null])) : ∃ w1, clsW xx ([], tNew, [], fun _ => none) w1 ∧ (∀ aq, aq < xx ∨ xx + 280 ≤ aq → w1 aq = w aq) ∧ pwX so 95 0 [some (.ref xx)] [] (xx + 1, 0, cz, sz) w = some (.inl none, (xx + 280, 0, cz + 279, sz + 2755), w1) := by
  -- the text
  have t1 := @i_X6 so (xx + 1) (cz + 1) (sz + 7) w
  generalize hw1 : va_up (va_up (va_up w (xx + 1) (.inr (5, [.int 0, .ref (xx + 1 + 1), .ref (xx + 1 + 2), .int 0, .int 0, .int 0, .int 0]))) (xx + 1 + 1) (.inl (0, 120, .inl fun _ => 0))) (xx + 1 + 2) (.inl (0, 4, .inl fun _ => 0)) = w1 at t1
  have o1 : ∀ aq, aq < xx + 1 ∨ xx + 4 ≤ aq → w1 aq = w aq := fun aq ha => by rw [← hw1, va_up_ne _ _ (by omega), va_up_ne _ _ (by omega), va_up_ne _ _ (by omega)]
  have v1 : w1 (xx + 1) = .inr (5, [.int 0, .ref (xx + 2), .ref (xx + 3), .int 0, .int 0, .int 0, .int 0]) := by rw [← hw1, va_up_ne _ _ (by omega), va_up_ne _ _ (by omega), va_up_self]
  have v2 : w1 (xx + 2) = .inl (0, 120, .inl fun _ => 0) := by rw [← hw1, va_up_ne _ _ (by omega), va_up_self]
  have v3 : w1 (xx + 3) = .inl (0, 4, .inl fun _ => 0) := by rw [← hw1, va_up_self]
  have p1 := pp_ (kk := 0) (vq := .ref (xx + 1)) ((o1 xx (by omega)).trans h) (by show 0 < 7; decide)
  generalize hu1 : va_up w1 xx (.inr (6, [.ref (xx + 1), .null, .null, .null, .null, .null, .null])) = u1
  have p1 : pwPut w1 xx 6 0 (.ref (xx + 1)) = some u1 := p1.trans (congrArg some hu1)
  have s1 : u1 xx = .inr (6, [.ref (xx + 1), .null, .null, .null, .null, .null, .null]) := by rw [← hu1, va_up_self]
  have r1 : pwX so 95 0 [some (.ref xx)] [] (xx + 1, 0, cz, sz) w = pwX so 95 15 [some (.ref xx)] [] (xx + 4, 0, cz + 3, sz + 131) u1 := by
    simp (disch := omega) only [s_X7_init_0, s_X7_init_1, s_X7_init_4, s_X7_init_5, s_X7_init_8, s_X7_init_9, s_X7_init_12, iU_s, iU_n, qAn, cond_true, Option.bind_some, qT_lt, qF_lt, qT_le, qF_le, qT_eq, qF_eq, ↓reduceIte, and_true, true_and, false_and, and_false, not_true_eq_false, not_false_eq_true, decide_true, decide_false, Bool.true_or, Bool.or_true, Bool.false_or, Bool.or_false, cond_true, cond_false, t1, p1]
  -- the town
  have t2 := @i_T so (xx + 4) (cz + 4) (sz + 143) u1
  have c2 : mkT (xx + 4) 1 (fun _ => 0) (fun _ _ => 0) u1 xx = .inr (6, [.ref (xx + 1), .null, .null, .null, .null, .null, .null]) := by rw [mkT_o (by omega)]; exact s1
  have p2 := pp_ (kk := 1) (vq := .ref (xx + 4)) c2 (by show 1 < 7; decide)
  generalize hu2 : va_up (mkT (xx + 4) 1 (fun _ => 0) (fun _ _ => 0) u1) xx (.inr (6, [.ref (xx + 1), .ref (xx + 4), .null, .null, .null, .null, .null])) = u2
  have p2 : pwPut (mkT (xx + 4) 1 (fun _ => 0) (fun _ _ => 0) u1) xx 6 1 (.ref (xx + 4)) = some u2 := p2.trans (congrArg some hu2)
  have s2 : u2 xx = .inr (6, [.ref (xx + 1), .ref (xx + 4), .null, .null, .null, .null, .null]) := by rw [← hu2, va_up_self]
  have r2 : pwX so 95 15 [some (.ref xx)] [] (xx + 4, 0, cz + 3, sz + 131) u1 = pwX so 95 26 [some (.ref xx)] [] (xx + 19, 0, cz + 18, sz + 275) u2 := by
    simp (disch := omega) only [s_X7_init_15, s_X7_init_16, s_X7_init_19, s_X7_init_20, s_X7_init_23, iU_s, iU_n, qAn, cond_true, Option.bind_some, qT_lt, qF_lt, qT_le, qF_le, qT_eq, qF_eq, ↓reduceIte, and_true, true_and, false_and, and_false, not_true_eq_false, not_false_eq_true, decide_true, decide_false, Bool.true_or, Bool.or_true, Bool.false_or, Bool.or_false, cond_true, cond_false, t2, p2]
  -- the trial
  have t3 := @i_T so (xx + 19) (cz + 19) (sz + 287) u2
  have c3 : mkT (xx + 19) 1 (fun _ => 0) (fun _ _ => 0) u2 xx = .inr (6, [.ref (xx + 1), .ref (xx + 4), .null, .null, .null, .null, .null]) := by rw [mkT_o (by omega)]; exact s2
  have p3 := pp_ (kk := 2) (vq := .ref (xx + 19)) c3 (by show 2 < 7; decide)
  generalize hu3 : va_up (mkT (xx + 19) 1 (fun _ => 0) (fun _ _ => 0) u2) xx (.inr (6, [.ref (xx + 1), .ref (xx + 4), .ref (xx + 19), .null, .null, .null, .null])) = u3
  have p3 : pwPut (mkT (xx + 19) 1 (fun _ => 0) (fun _ _ => 0) u2) xx 6 2 (.ref (xx + 19)) = some u3 := p3.trans (congrArg some hu3)
  have s3 : u3 xx = .inr (6, [.ref (xx + 1), .ref (xx + 4), .ref (xx + 19), .null, .null, .null, .null]) := by rw [← hu3, va_up_self]
  have r3 : pwX so 95 26 [some (.ref xx)] [] (xx + 19, 0, cz + 18, sz + 275) u2 = pwX so 95 37 [some (.ref xx)] [] (xx + 34, 0, cz + 33, sz + 419) u3 := by
    simp (disch := omega) only [s_X7_init_26, s_X7_init_27, s_X7_init_30, s_X7_init_31, s_X7_init_34, iU_s, iU_n, qAn, cond_true, Option.bind_some, qT_lt, qF_lt, qT_le, qF_le, qT_eq, qF_eq, ↓reduceIte, and_true, true_and, false_and, and_false, not_true_eq_false, not_false_eq_true, decide_true, decide_false, Bool.true_or, Bool.or_true, Bool.false_or, Bool.or_false, cond_true, cond_false, t3, p3]
  -- the measures
  have t4 := @i_X1 so (xx + 34) (cz + 34) (sz + 420) u3
  generalize hw4 : va_up (va_up u3 (xx + 34) (.inr (1, [.ref (xx + 34 + 1)]))) (xx + 34 + 1) (.inl (0, 10, .inl fun _ => 0)) = w4 at t4
  have o4 : ∀ aq, aq < xx + 34 ∨ xx + 36 ≤ aq → w4 aq = u3 aq := fun aq ha => by rw [← hw4, va_up_ne _ _ (by omega), va_up_ne _ _ (by omega)]
  have p4 := pp_ (kk := 3) (vq := .ref (xx + 34)) ((o4 xx (by omega)).trans s3) (by show 3 < 7; decide)
  generalize hu4 : va_up w4 xx (.inr (6, [.ref (xx + 1), .ref (xx + 4), .ref (xx + 19), .ref (xx + 34), .null, .null, .null])) = u4
  have p4 : pwPut w4 xx 6 3 (.ref (xx + 34)) = some u4 := p4.trans (congrArg some hu4)
  have s4 : u4 xx = .inr (6, [.ref (xx + 1), .ref (xx + 4), .ref (xx + 19), .ref (xx + 34), .null, .null, .null]) := by rw [← hu4, va_up_self]
  have r4 : pwX so 95 37 [some (.ref xx)] [] (xx + 34, 0, cz + 33, sz + 419) u3 = pwX so 95 48 [some (.ref xx)] [] (xx + 36, 0, cz + 35, sz + 430) u4 := by
    simp (disch := omega) only [s_X7_init_37, s_X7_init_38, s_X7_init_41, s_X7_init_42, s_X7_init_45, iU_s, iU_n, qAn, cond_true, Option.bind_some, qT_lt, qF_lt, qT_le, qF_le, qT_eq, qF_eq, ↓reduceIte, and_true, true_and, false_and, and_false, not_true_eq_false, not_false_eq_true, decide_true, decide_false, Bool.true_or, Bool.or_true, Bool.false_or, Bool.or_false, cond_true, cond_false, t4, p4]
  -- the history
  obtain ⟨w5, m1, o5, t5⟩ := @i_H so xx (cz + 36) (sz + 433) (va_up u4 (xx + 36) (.inr (0, [.int 0, .null, .int 0]))) (va_up_self _ _ _)
  have o5 : ∀ aq, aq < xx + 36 ∨ xx + 248 ≤ aq → w5 aq = u4 aq := fun aq ha => by rw [o5 aq ha, va_up_ne _ _ (by omega)]
  have p5 := pp_ (kk := 4) (vq := .ref (xx + 36)) ((o5 xx (by omega)).trans s4) (by show 4 < 7; decide)
  generalize hu5 : va_up w5 xx (.inr (6, [.ref (xx + 1), .ref (xx + 4), .ref (xx + 19), .ref (xx + 34), .ref (xx + 36), .null, .null])) = u5
  have p5 : pwPut w5 xx 6 4 (.ref (xx + 36)) = some u5 := p5.trans (congrArg some hu5)
  have s5 : u5 xx = .inr (6, [.ref (xx + 1), .ref (xx + 4), .ref (xx + 19), .ref (xx + 34), .ref (xx + 36), .null, .null]) := by rw [← hu5, va_up_self]
  have r5 : pwX so 95 48 [some (.ref xx)] [] (xx + 36, 0, cz + 35, sz + 430) u4 = pwX so 95 59 [some (.ref xx)] [] (xx + 248, 0, cz + 247, sz + 2463) u5 := by
    simp (disch := omega) only [s_X7_init_48, s_X7_init_49, s_X7_init_52, s_X7_init_53, s_X7_init_56, iU_s, iU_n, qAn, cond_true, Option.bind_some, qT_lt, qF_lt, qT_le, qF_le, qT_eq, qF_eq, ↓reduceIte, and_true, true_and, false_and, and_false, not_true_eq_false, not_false_eq_true, decide_true, decide_false, Bool.true_or, Bool.or_true, Bool.false_or, Bool.or_false, cond_true, cond_false, t5, p5]
  -- the slots
  obtain ⟨w6, t6, m6, o6⟩ := @i_X3 so (xx + 248) (cz + 248) (sz + 2465) u5
  have p6 := pp_ (kk := 5) (vq := .ref (xx + 248)) ((o6 xx (by omega)).trans s5) (by show 5 < 7; decide)
  generalize hu6 : va_up w6 xx (.inr (6, [.ref (xx + 1), .ref (xx + 4), .ref (xx + 19), .ref (xx + 34), .ref (xx + 36), .ref (xx + 248), .null])) = u6
  have p6 : pwPut w6 xx 6 5 (.ref (xx + 248)) = some u6 := p6.trans (congrArg some hu6)
  have s6 : u6 xx = .inr (6, [.ref (xx + 1), .ref (xx + 4), .ref (xx + 19), .ref (xx + 34), .ref (xx + 36), .ref (xx + 248), .null]) := by rw [← hu6, va_up_self]
  have r6 : pwX so 95 59 [some (.ref xx)] [] (xx + 248, 0, cz + 247, sz + 2463) u5 = pwX so 95 70 [some (.ref xx)] [] (xx + 264, 0, cz + 263, sz + 2609) u6 := by
    simp (disch := omega) only [s_X7_init_59, s_X7_init_60, s_X7_init_63, s_X7_init_64, s_X7_init_67, iU_s, iU_n, qAn, cond_true, Option.bind_some, qT_lt, qF_lt, qT_le, qF_le, qT_eq, qF_eq, ↓reduceIte, and_true, true_and, false_and, and_false, not_true_eq_false, not_false_eq_true, decide_true, decide_false, Bool.true_or, Bool.or_true, Bool.false_or, Bool.or_false, cond_true, cond_false, t6, p6]
  obtain ⟨w7, t7, m7, o7⟩ := @i_X3 so (xx + 264) (cz + 264) (sz + 2611) u6
  have p7 := pp_ (kk := 6) (vq := .ref (xx + 264)) ((o7 xx (by omega)).trans s6) (by show 6 < 7; decide)
  generalize hu7 : va_up w7 xx (.inr (6, [.ref (xx + 1), .ref (xx + 4), .ref (xx + 19), .ref (xx + 34), .ref (xx + 36), .ref (xx + 248), .ref (xx + 264)])) = u7
  have p7 : pwPut w7 xx 6 6 (.ref (xx + 264)) = some u7 := p7.trans (congrArg some hu7)
  have s7 : u7 xx = .inr (6, [.ref (xx + 1), .ref (xx + 4), .ref (xx + 19), .ref (xx + 34), .ref (xx + 36), .ref (xx + 248), .ref (xx + 264)]) := by rw [← hu7, va_up_self]
  have r7 : pwX so 95 70 [some (.ref xx)] [] (xx + 264, 0, cz + 263, sz + 2609) u6 = some (.inl none, (xx + 280, 0, cz + 279, sz + 2755), u7) := by
    simp (disch := omega) only [s_X7_init_70, s_X7_init_71, s_X7_init_74, s_X7_init_75, s_X7_init_78, s_X7_init_81, iU_s, iU_n, qAn, cond_true, Option.bind_some, qT_lt, qF_lt, qT_le, qF_le, qT_eq, qF_eq, ↓reduceIte, and_true, true_and, false_and, and_false, not_true_eq_false, not_false_eq_true, decide_true, decide_false, Bool.true_or, Bool.or_true, Bool.false_or, Bool.or_false, cond_true, cond_false, t7, p7]
  -- what stays
  have k7 : ∀ aq, aq ≠ xx → u7 aq = w7 aq := fun aq ha => by rw [← hu7]; exact va_up_ne _ _ ha
  have k6 : ∀ aq, aq ≠ xx → u6 aq = w6 aq := fun aq ha => by rw [← hu6]; exact va_up_ne _ _ ha
  have k5 : ∀ aq, aq ≠ xx → u5 aq = w5 aq := fun aq ha => by rw [← hu5]; exact va_up_ne _ _ ha
  have k4 : ∀ aq, aq ≠ xx → u4 aq = w4 aq := fun aq ha => by rw [← hu4]; exact va_up_ne _ _ ha
  have k3 : ∀ aq, aq ≠ xx → u3 aq = mkT (xx + 19) 1 (fun _ => 0) (fun _ _ => 0) u2 aq := fun aq ha => by rw [← hu3]; exact va_up_ne _ _ ha
  have k2 : ∀ aq, aq ≠ xx → u2 aq = mkT (xx + 4) 1 (fun _ => 0) (fun _ _ => 0) u1 aq := fun aq ha => by rw [← hu2]; exact va_up_ne _ _ ha
  have k1 : ∀ aq, aq ≠ xx → u1 aq = w1 aq := fun aq ha => by rw [← hu1]; exact va_up_ne _ _ ha
  have z6 : ∀ aq, aq ≠ xx → aq < xx + 264 → u7 aq = w6 aq := fun aq ha hb => by rw [k7 aq ha, o7 aq (by omega), k6 aq ha]
  have z5 : ∀ aq, aq ≠ xx → aq < xx + 248 → u7 aq = w5 aq := fun aq ha hb => by rw [z6 aq ha (by omega), o6 aq (by omega), k5 aq ha]
  have z4 : ∀ aq, aq ≠ xx → aq < xx + 36 → u7 aq = w4 aq := fun aq ha hb => by rw [z5 aq ha (by omega), o5 aq (by omega), k4 aq ha]
  have z3 : ∀ aq, aq ≠ xx → aq < xx + 34 → u7 aq = mkT (xx + 19) 1 (fun _ => 0) (fun _ _ => 0) u2 aq := fun aq ha hb => by rw [z4 aq ha (by omega), o4 aq (by omega), k3 aq ha]
  have z2 : ∀ aq, aq ≠ xx → aq < xx + 19 → u7 aq = mkT (xx + 4) 1 (fun _ => 0) (fun _ _ => 0) u1 aq := fun aq ha hb => by rw [z3 aq ha (by omega), mkT_o (by omega), k2 aq ha]
  have z1 : ∀ aq, aq ≠ xx → aq < xx + 4 → u7 aq = w1 aq := fun aq ha hb => by rw [z2 aq ha (by omega), mkT_o (by omega), k1 aq ha]
  refine ⟨u7, ⟨s7, tA_fr (fun aq c1 c2 => z2 aq (by omega) (by omega)) (tA_mk inv_New (tN_New (xq := 1))), tAny_fr (fun aq c1 c2 => z3 aq (by omega) (by omega)) tAny_mk, ⟨by rw [z4 _ (by omega) (by omega), ← hw4, va_up_ne _ _ (by omega), va_up_self], fun _ => 0, by rw [z4 _ (by omega) (by omega), ← hw4, va_up_self]⟩, ⟨Nat.zero_le _, fun cq hh => (by cases hh), 0, 0, 0, 0, fun _ => 0, fun _ => 0, by rw [z1 _ (by omega) (by omega)]; exact v1, Or.inl rfl, by rw [z1 _ (by omega) (by omega)]; exact v2, fun iq kq hh => (by cases hh), by rw [z1 _ (by omega) (by omega)]; exact v3⟩, histW_fr (fun aq c1 c2 => z5 aq (by omega) (by omega)) m1, slotW_fr (fun aq c1 c2 => z6 aq (by omega) (by omega)) m6, slotW_fr (fun aq c1 c2 => k7 aq (by omega)) m7⟩, fun aq ha => ?_, ?_⟩
  · rw [k7 aq (by omega), o7 aq (by omega), k6 aq (by omega), o6 aq (by omega), k5 aq (by omega), o5 aq (by omega), k4 aq (by omega), o4 aq (by omega), k3 aq (by omega), mkT_o (by omega), k2 aq (by omega), mkT_o (by omega), k1 aq (by omega), o1 aq (by omega)]
  · rw [r1, r2, r3, r4, r5, r6, r7]
end QA
theorem cls_fr {xx : Nat} {Fq : FS} {w w1 : pwW} (hf : ∀ aq, xx ≤ aq → aq < xx + 280 → w1 aq = w aq) (h : clsW xx Fq w) : clsW xx Fq w1 := by
  obtain ⟨h1, h2, h3, ⟨h4, fr, h5⟩, h6, h7, h8, h9⟩ := h
  exact ⟨by rw [hf _ (by omega) (by omega)]; exact h1, tA_fr (fun aq a c => hf aq (by omega) (by omega)) h2, tAny_fr (fun aq a c => hf aq (by omega) (by omega)) h3, ⟨by rw [hf _ (by omega) (by omega)]; exact h4, fr, by rw [hf _ (by omega) (by omega)]; exact h5⟩, textW_fr (fun aq a c => hf aq (by omega) (by omega)) h6, histW_fr (fun aq a c => hf aq (by omega) (by omega)) h7, slotW_fr (fun aq a c => hf aq (by omega) (by omega)) h8, slotW_fr (fun aq a c => hf aq (by omega) (by omega)) h9⟩
theorem soW_f2 {so : Nat → Nat} {N9 : Nat} {w w1 : pwW} (h : soW so N9 w) (hf : ∀ aq, aq < N9 → w1 aq = w aq) : soW so N9 w1 := by
  refine ⟨h.1, fun jq q9 h1 => ?_⟩
  have h2 : jq < 8 := (List.getElem?_eq_some_iff.mp h1).1
  rw [hf _ (h.1 jq h2)]
  exact h.2 jq q9 h1
theorem ld4 {w : pwW} {bq L9 jq : Nat} {xs : Nat → Int32} (hb : w bq = .inl (4, L9, .inl xs)) (h : jq < L9) (hL : L9 ≤ 2560) : pwLd w bq (zN jq) = some (xs jq) := by
  rw [qLd hb (Or.inr rfl) (qIn_of h (by omega)), zN_nat (by omega)]

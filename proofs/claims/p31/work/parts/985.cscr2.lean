/-! the pure part: the class runs a script: groups, the whole -/
def zL (pq : Nat) : Int64 := Int64.ofNat pq
section QN
variable {aq bq : Nat}
theorem zL_toInt (h : aq < 9223372036854775808) : (zL aq).toInt = (aq : Int) := Int64.toInt_ofNat_of_lt h
theorem zL_div (ha : aq < 9223372036854775808) (hb : bq < 9223372036854775808) : zL aq / zL bq = zL (aq / bq) := (Int64.ofNat_div ha hb).symm
theorem zL_mul : zL aq * zL bq = zL (aq * bq) := (Int64.ofNat_mul aq bq).symm
theorem zL_sub (h : bq ≤ aq) : zL aq - zL bq = zL (aq - bq) := (Int64.ofNat_sub aq bq h).symm
theorem zL_rem (ha : aq < 9223372036854775808) (hb : bq < 9223372036854775808) : zL aq - zL aq / zL bq * zL bq = zL (aq % bq) := by
  rw [zL_div ha hb, zL_mul, zL_sub (Nat.div_mul_le_self aq bq), nat_rem]
theorem zL_i : (zL aq).toInt32 = zN aq := by
  unfold zL zN
  exact Int64.toInt32_ofNat'
theorem zL_eq (ha : aq < 9223372036854775808) (hb : bq < 9223372036854775808) : (zL aq = zL bq) = (aq = bq) := by
  rw [← propext Int64.toInt_inj, zL_toInt ha, zL_toInt hb]
  exact propext ⟨fun h => by omega, fun h => by omega⟩
theorem zL_of {sz : Int64} (h : 0 ≤ sz.toInt) : sz = zL sz.toInt.toNat ∧ sz.toInt.toNat < 9223372036854775808 := by
  have h2 := sz.toInt_lt
  have h3 : sz.toInt.toNat < 9223372036854775808 := by omega
  refine ⟨Int64.toInt_inj.mp ?_, h3⟩
  rw [zL_toInt h3]; omega
theorem zL_l6 : (1000000 : Int64) = zL 1000000 := rfl
theorem zL_l0 : (0 : Int64) = zL 0 := rfl
theorem lcE0 {xq yq : Int64} : (lg_cmp xq yq = zN 0) = (xq = yq) := propext (lg_cmp_eq xq yq)
end QN
def scG (fz : Nat → TA → Int32 × TA) : Nat → Nat → TA → Int32
  | 0, _, _ => zM
  | dq + 1, iq, Aq => if (fz iq Aq).1 = zN 0 then zN iq else scG fz dq (iq + 1) (fz iq Aq).2
theorem scG_s {fz : Nat → TA → Int32 × TA} {dq iq : Nat} {Aq : TA} : scG fz (dq + 1) iq Aq = if (fz iq Aq).1 = zN 0 then zN iq else scG fz dq (iq + 1) (fz iq Aq).2 := rfl
theorem scG_0 {fz : Nat → TA → Int32 × TA} {iq : Nat} {Aq : TA} : scG fz 0 iq Aq = zM := rfl
def cmI (nq sN iq : Nat) (Aq : TA) : Int32 × TA := cmd Aq (sN / 1000000 ^ (nq - 1 - iq) % 1000000)
def scA (nq sN : Nat) (Aq : TA) : Int32 := scG (cmI nq sN) nq 0 Aq
abbrev okSc (pq : Int32) (sz : Int64) : Prop := (1 ≤ pq.toInt ∧ pq.toInt ≤ 3) ∧ 0 ≤ sz.toInt ∧ sz.toInt.toNat / 1000000 ^ un pq = 0
def fScr (Fq : FS) (pq : Int32) (sz : Int64) : Nat × Int32 := if okSc pq sz then (0, scA (un pq) sz.toInt.toNat Fq.2.1) else (1, 0)
theorem cmd_01 {Aq : TA} {gz : Nat} : (cmd Aq gz).1 = zN 1 ∨ (cmd Aq gz).1 = zN 0 := by
  unfold cmd
  split
  · exact Or.inr rfl
  · split
    · exact qI_01
    · split
      · exact qI_01
      · split
        · exact qI_01
        · split
          · exact qI_01
          · split
            · exact Or.inl rfl
            · split
              · exact qI_01
              · split
                · exact qI_01
                · split
                  · exact qI_01
                  · exact qI_01
theorem cmI_01 {Aq : TA} {nq sN iq : Nat} : (cmI nq sN iq Aq).1 = zN 1 ∨ (cmI nq sN iq Aq).1 = zN 0 := by unfold cmI; exact cmd_01
theorem inv_cmI {Aq : TA} {nq sN iq : Nat} (hI : invT Aq) : invT (cmI nq sN iq Aq).2 := by unfold cmI; exact inv_cmd hI
section QA
variable {so : Nat → Nat} {g : pwG} {xx bq : Nat} {w w1 : pwW} {Fq : FS} {pq kq rq tq uq : Int32} {Aq Bq : TA}
theorem m_group5 {s0 : Int64} {nq : Nat} (hn : nq < 100) : ∀ dq iq k9, iq + dq = nq → k9 < 9223372036854775808 → pwX so 10 5 [some (.long s0), none, some (.int (zN nq)), some (.long (zL k9)), none, some (.int (zN iq))] [] g w = some (.inl (some (.long (zL (k9 / 1000000 ^ dq)))), g, w) := by
  intro dq
  induction dq with
  | zero =>
    intro iq k9 h1 h2
    have h1 : iq = nq := by omega
    subst h1
    rw [Nat.pow_zero, Nat.div_one]
    simp (disch := omega) only [s_X2_groupFromEnd_0, s_X2_groupFromEnd_1, s_X2_groupFromEnd_2, s_X2_groupFromEnd_3, s_X2_groupFromEnd_5, s_X2_groupFromEnd_7, s_X2_groupFromEnd_8, s_X2_groupFromEnd_11, s_X2_groupFromEnd_12, s_X2_groupFromEnd_15, s_X2_groupFromEnd_16, s_X2_groupFromEnd_17, s_X2_groupFromEnd_20, s_X2_groupFromEnd_23, s_X2_groupFromEnd_24, zN_neg1, nL0, nL1, nL2, nL3, nL4, nL5, nL6, nL7, nL8, nL9, nL10, nL11, nL12, nL13, nL14, nL20, nL21, nL22, nL23, nL25, nL32, nL33, nL39, nL40, nL43, nL44, nL99, nL100, nL120, nL216, nL217, nL218, nL219, nL220, nL221, nL500, nL999, nL1000, nL10000, nL100000, sh33, zN_lt, zN_le, zN_eq, zN_ge0, zN_lt0, zN_nm, zN_mn, zN_mlt, zN_ltm, zN_lem, zN_mle, zN_m1, zN_m2, zN_addm, zN_ofNat, zN_beq, zN_add, zN_sub, zN_mul, zN_rem, qT_lt, qF_lt, qT_le, qF_le, qT_eq, qF_eq, ↓reduceIte, and_true, true_and, false_and, and_false, not_true_eq_false, not_false_eq_true, decide_true, decide_false, Bool.true_or, Bool.or_true, Bool.false_or, Bool.or_false, cond_true, cond_false]
  | succ dq ih =>
    intro iq k9 h1 h2
    rw [Nat.pow_succ', ← Nat.div_div_eq_div_mul, ← ih (iq + 1) (k9 / 1000000) (by omega) (by omega)]
    conv => lhs; rw [s_X2_groupFromEnd_5]
    simp (disch := omega) only [s_X2_groupFromEnd_0, s_X2_groupFromEnd_1, s_X2_groupFromEnd_2, s_X2_groupFromEnd_3, s_X2_groupFromEnd_7, s_X2_groupFromEnd_8, s_X2_groupFromEnd_11, s_X2_groupFromEnd_12, s_X2_groupFromEnd_15, s_X2_groupFromEnd_16, s_X2_groupFromEnd_17, s_X2_groupFromEnd_20, s_X2_groupFromEnd_23, s_X2_groupFromEnd_24, zN_neg1, nL0, nL1, nL2, nL3, nL4, nL5, nL6, nL7, nL8, nL9, nL10, nL11, nL12, nL13, nL14, nL20, nL21, nL22, nL23, nL25, nL32, nL33, nL39, nL40, nL43, nL44, nL99, nL100, nL120, nL216, nL217, nL218, nL219, nL220, nL221, nL500, nL999, nL1000, nL10000, nL100000, sh33, zN_lt, zN_le, zN_eq, zN_ge0, zN_lt0, zN_nm, zN_mn, zN_mlt, zN_ltm, zN_lem, zN_mle, zN_m1, zN_m2, zN_addm, zN_ofNat, zN_beq, zN_add, zN_sub, zN_mul, zN_rem, qT_lt, qF_lt, qT_le, qF_le, qT_eq, qF_eq, ↓reduceIte, and_true, true_and, false_and, and_false, not_true_eq_false, not_false_eq_true, decide_true, decide_false, Bool.true_or, Bool.or_true, Bool.false_or, Bool.or_false, cond_true, cond_false, zL_l6, zL_l0, zL_eq, zL_div]
theorem m_group {nq k9 : Nat} (hn : nq < 100) (hk : k9 < 9223372036854775808) : pwX so 10 0 [some (.long (zL k9)), none, some (.int (zN nq)), none, none, none] [] g w = some (.inl (some (.long (zL (k9 / 1000000 ^ nq)))), g, w) := by
  rw [← @m_group5 so g w (zL k9) nq hn nq 0 k9 (by omega) hk]
  simp (disch := omega) only [s_X2_groupFromEnd_0, s_X2_groupFromEnd_1, s_X2_groupFromEnd_2, s_X2_groupFromEnd_3, zN_neg1, nL0, nL1, nL2, nL3, nL4, nL5, nL6, nL7, nL8, nL9, nL10, nL11, nL12, nL13, nL14, nL20, nL21, nL22, nL23, nL25, nL32, nL33, nL39, nL40, nL43, nL44, nL99, nL100, nL120, nL216, nL217, nL218, nL219, nL220, nL221, nL500, nL999, nL1000, nL10000, nL100000]
theorem m_cmI {nq sN iq : Nat} (hC : clsW xx Fq w) (hI : invT Aq) (hz : triA xx Aq w w1) : ∃ w2, triA xx (cmI nq sN iq Aq).2 w w2 ∧ pwX so 11 0 [some (.ref (xx + 19)), some (.int (zN (sN / 1000000 ^ (nq - 1 - iq) % 1000000))), none, none, none, none] [] g w1 = some (.inl (some (.int ((cmI nq sN iq Aq).1))), g, w2) := by
  obtain ⟨xb, sb, Rb, hT, h⟩ := hz
  obtain ⟨x1, s1, R1, a1, a2⟩ := @c_cmd so g (xx + 19) w Aq xb sb Rb (sN / 1000000 ^ (nq - 1 - iq) % 1000000) (Nat.mod_lt _ (by decide)) hI hT
  rw [← h] at a2
  exact ⟨_, ⟨x1, s1, R1, a1, rfl⟩, a2⟩
theorem x_scr51 {nq sN : Nat} (hn : nq ≤ 3) (hs : sN < 9223372036854775808) (hC : clsW xx Fq w) : ∀ (dq iq : Nat) (Aq : TA) (w1 : pwW) (o5 : Option Value), iq + dq = nq → invT Aq → triA xx Aq w w1 → ∃ w2, clsW xx Fq w2 ∧ frm xx w w2 ∧ pwX so 121 51 [some (.ref xx), some (.int (zN nq)), some (.long (zL sN)), none, some (.int (zN iq)), o5] [] g w1 = some (.inl (some (.int (scG (cmI nq sN) dq iq Aq))), g, w2) := by
  intro dq
  induction dq with
  | zero =>
    intro iq Aq w1 o5 h1 hI hz
    have h1 : iq = nq := by omega
    subst h1
    obtain ⟨c1, c2, c3⟩ := triA_c hC hz
    refine ⟨w1, c1, c2, ?_⟩
    rw [scG_0]
    simp (disch := omega) only [s_X7_runScript_0, s_X7_runScript_1, s_X7_runScript_2, s_X7_runScript_5, s_X7_runScript_6, s_X7_runScript_7, s_X7_runScript_10, s_X7_runScript_11, s_X7_runScript_12, s_X7_runScript_13, s_X7_runScript_16, s_X7_runScript_17, s_X7_runScript_18, s_X7_runScript_21, s_X7_runScript_22, s_X7_runScript_23, s_X7_runScript_26, s_X7_runScript_37, s_X7_runScript_38, s_X7_runScript_41, s_X7_runScript_42, s_X7_runScript_45, s_X7_runScript_48, s_X7_runScript_49, s_X7_runScript_51, s_X7_runScript_53, s_X7_runScript_54, s_X7_runScript_57, s_X7_runScript_58, s_X7_runScript_59, s_X7_runScript_60, s_X7_runScript_61, s_X7_runScript_63, s_X7_runScript_64, s_X7_runScript_67, s_X7_runScript_70, s_X7_runScript_71, s_X7_runScript_72, s_X7_runScript_74, s_X7_runScript_75, s_X7_runScript_78, s_X7_runScript_80, s_X7_runScript_83, s_X7_runScript_86, s_X7_runScript_88, s_X7_runScript_89, s_X7_runScript_92, s_X7_runScript_95, s_X7_runScript_96, zN_neg1, nL0, nL1, nL2, nL3, nL4, nL5, nL6, nL7, nL8, nL9, nL10, nL11, nL12, nL13, nL14, nL20, nL21, nL22, nL23, nL25, nL32, nL33, nL39, nL40, nL43, nL44, nL99, nL100, nL120, nL216, nL217, nL218, nL219, nL220, nL221, nL500, nL999, nL1000, nL10000, nL100000, sh33, zN_lt, zN_le, zN_eq, zN_ge0, zN_lt0, zN_nm, zN_mn, zN_mlt, zN_ltm, zN_lem, zN_mle, zN_m1, zN_m2, zN_addm, zN_ofNat, zN_beq, zN_add, zN_sub, zN_mul, zN_rem, qT_lt, qF_lt, qT_le, qF_le, qT_eq, qF_eq, ↓reduceIte, and_true, true_and, false_and, and_false, not_true_eq_false, not_false_eq_true, decide_true, decide_false, Bool.true_or, Bool.or_true, Bool.false_or, Bool.or_false, cond_true, cond_false]
  | succ dq ih =>
    intro iq Aq w1 o5 h1 hI hz
    obtain ⟨c1, c2, c3⟩ := triA_c hC hz
    have hg := @hx_g xx _ _ c1
    have b0 := @m_group so g w1 (nq - 1 - iq) sN (by omega) hs
    obtain ⟨w2, a1, a2⟩ := @m_cmI so g xx w w1 Fq Aq nq sN iq hC hI hz
    have hdiv : sN / 1000000 ^ (nq - 1 - iq) < 9223372036854775808 := Nat.lt_of_le_of_lt (Nat.div_le_self _ _) hs
    rw [scG_s]
    rcases @cmI_01 Aq nq sN iq with h5 | h5
    · rw [if_neg (by rw [h5]; decide)]
      rw [h5] at a2
      obtain ⟨w3, d1, d2, d3⟩ := ih (iq + 1) _ w2 (some (.int (zN (sN / 1000000 ^ (nq - 1 - iq) % 1000000)))) (by omega) (inv_cmI hI) a1
      refine ⟨w3, d1, d2, ?_⟩
      rw [← d3]
      conv => lhs; rw [s_X7_runScript_51]
      simp (disch := omega) only [s_X7_runScript_0, s_X7_runScript_1, s_X7_runScript_2, s_X7_runScript_5, s_X7_runScript_6, s_X7_runScript_7, s_X7_runScript_10, s_X7_runScript_11, s_X7_runScript_12, s_X7_runScript_13, s_X7_runScript_16, s_X7_runScript_17, s_X7_runScript_18, s_X7_runScript_21, s_X7_runScript_22, s_X7_runScript_23, s_X7_runScript_26, s_X7_runScript_37, s_X7_runScript_38, s_X7_runScript_41, s_X7_runScript_42, s_X7_runScript_45, s_X7_runScript_48, s_X7_runScript_49, s_X7_runScript_53, s_X7_runScript_54, s_X7_runScript_57, s_X7_runScript_58, s_X7_runScript_59, s_X7_runScript_60, s_X7_runScript_61, s_X7_runScript_63, s_X7_runScript_64, s_X7_runScript_67, s_X7_runScript_70, s_X7_runScript_71, s_X7_runScript_72, s_X7_runScript_74, s_X7_runScript_75, s_X7_runScript_78, s_X7_runScript_80, s_X7_runScript_83, s_X7_runScript_86, s_X7_runScript_88, s_X7_runScript_89, s_X7_runScript_92, s_X7_runScript_95, s_X7_runScript_96, zN_neg1, nL0, nL1, nL2, nL3, nL4, nL5, nL6, nL7, nL8, nL9, nL10, nL11, nL12, nL13, nL14, nL20, nL21, nL22, nL23, nL25, nL32, nL33, nL39, nL40, nL43, nL44, nL99, nL100, nL120, nL216, nL217, nL218, nL219, nL220, nL221, nL500, nL999, nL1000, nL10000, nL100000, sh33, zN_lt, zN_le, zN_eq, zN_ge0, zN_lt0, zN_nm, zN_mn, zN_mlt, zN_ltm, zN_lem, zN_mle, zN_m1, zN_m2, zN_addm, zN_ofNat, zN_beq, zN_add, zN_sub, zN_mul, zN_rem, qT_lt, qF_lt, qT_le, qF_le, qT_eq, qF_eq, ↓reduceIte, and_true, true_and, false_and, and_false, not_true_eq_false, not_false_eq_true, decide_true, decide_false, Bool.true_or, Bool.or_true, Bool.false_or, Bool.or_false, cond_true, cond_false, qAv, qAn, cond_true, Option.bind_some, List.getElem?_cons_succ, List.getElem?_cons_zero, hg, zL_l6, zL_l0, zL_eq, zL_rem, zL_i, b0, a2]
    · rw [if_pos h5]
      rw [h5] at a2
      obtain ⟨d1, d2, d3⟩ := triA_c hC a1
      refine ⟨w2, d1, d2, ?_⟩
      simp (disch := omega) only [s_X7_runScript_0, s_X7_runScript_1, s_X7_runScript_2, s_X7_runScript_5, s_X7_runScript_6, s_X7_runScript_7, s_X7_runScript_10, s_X7_runScript_11, s_X7_runScript_12, s_X7_runScript_13, s_X7_runScript_16, s_X7_runScript_17, s_X7_runScript_18, s_X7_runScript_21, s_X7_runScript_22, s_X7_runScript_23, s_X7_runScript_26, s_X7_runScript_37, s_X7_runScript_38, s_X7_runScript_41, s_X7_runScript_42, s_X7_runScript_45, s_X7_runScript_48, s_X7_runScript_49, s_X7_runScript_51, s_X7_runScript_53, s_X7_runScript_54, s_X7_runScript_57, s_X7_runScript_58, s_X7_runScript_59, s_X7_runScript_60, s_X7_runScript_61, s_X7_runScript_63, s_X7_runScript_64, s_X7_runScript_67, s_X7_runScript_70, s_X7_runScript_71, s_X7_runScript_72, s_X7_runScript_74, s_X7_runScript_75, s_X7_runScript_78, s_X7_runScript_80, s_X7_runScript_83, s_X7_runScript_86, s_X7_runScript_88, s_X7_runScript_89, s_X7_runScript_92, s_X7_runScript_95, s_X7_runScript_96, zN_neg1, nL0, nL1, nL2, nL3, nL4, nL5, nL6, nL7, nL8, nL9, nL10, nL11, nL12, nL13, nL14, nL20, nL21, nL22, nL23, nL25, nL32, nL33, nL39, nL40, nL43, nL44, nL99, nL100, nL120, nL216, nL217, nL218, nL219, nL220, nL221, nL500, nL999, nL1000, nL10000, nL100000, sh33, zN_lt, zN_le, zN_eq, zN_ge0, zN_lt0, zN_nm, zN_mn, zN_mlt, zN_ltm, zN_lem, zN_mle, zN_m1, zN_m2, zN_addm, zN_ofNat, zN_beq, zN_add, zN_sub, zN_mul, zN_rem, qT_lt, qF_lt, qT_le, qF_le, qT_eq, qF_eq, ↓reduceIte, and_true, true_and, false_and, and_false, not_true_eq_false, not_false_eq_true, decide_true, decide_false, Bool.true_or, Bool.or_true, Bool.false_or, Bool.or_false, cond_true, cond_false, qAv, qAn, cond_true, Option.bind_some, List.getElem?_cons_succ, List.getElem?_cons_zero, hg, zL_l6, zL_l0, zL_eq, zL_rem, zL_i, b0, a2]
theorem x_scr {sz : Int64} (hC : clsW xx Fq w) : ∃ w1, clsW xx Fq w1 ∧ frm xx w w1 ∧ pwX so 121 0 [some (.ref xx), some (.int pq), some (.long sz), none, none, none] [] g w = some (oC (fun _ => 0) (fScr Fq pq sz) g w1) := by
  have hg := @hx_g xx w Fq hC
  unfold fScr
  have l0 : Int64.toInt (zL 0) = 0 := rfl
  by_cases h1 : 1 ≤ pq.toInt ∧ pq.toInt ≤ 3
  · obtain ⟨p9, rfl, e7, e8, e9⟩ := un_ex (pq := pq) (by omega)
    rw [zN_toInt (by omega)] at h1
    by_cases h2 : 0 ≤ sz.toInt
    · obtain ⟨f1, f2⟩ := zL_of h2
      have h4 : ¬ sz.toInt < 0 := by omega
      have b0 := @m_group so g w p9 sz.toInt.toNat (by omega) f2
      have f3 : sz.toInt.toNat / 1000000 ^ p9 < 9223372036854775808 := Nat.lt_of_le_of_lt (Nat.div_le_self _ _) f2
      rw [← f1] at b0
      by_cases h3 : sz.toInt.toNat / 1000000 ^ p9 = 0
      · rw [if_pos ⟨by rw [zN_toInt (by omega)]; exact h1, h2, by rw [e9]; exact h3⟩, e9]
        obtain ⟨xb, sb, Rb, hI, a1, i1, a2⟩ := @tri_ so g xx w Fq hC
        obtain ⟨w2, c1, c2, c3⟩ := @x_scr51 so g xx w Fq p9 sz.toInt.toNat (by omega) f2 hC p9 0 Fq.2.1 (mkT (xx + 19) xb sb Rb w) none (by omega) hI ⟨xb, sb, Rb, a1, rfl⟩
        refine ⟨w2, c1, c2, ?_⟩
        rw [oC_0]
        rw [← f1] at c3
        simp (disch := omega) only [s_X7_runScript_0, s_X7_runScript_1, s_X7_runScript_2, s_X7_runScript_5, s_X7_runScript_6, s_X7_runScript_7, s_X7_runScript_10, s_X7_runScript_11, s_X7_runScript_12, s_X7_runScript_13, s_X7_runScript_16, s_X7_runScript_17, s_X7_runScript_18, s_X7_runScript_21, s_X7_runScript_22, s_X7_runScript_23, s_X7_runScript_26, s_X7_runScript_37, s_X7_runScript_38, s_X7_runScript_41, s_X7_runScript_42, s_X7_runScript_45, s_X7_runScript_48, s_X7_runScript_49, zN_neg1, nL0, nL1, nL2, nL3, nL4, nL5, nL6, nL7, nL8, nL9, nL10, nL11, nL12, nL13, nL14, nL20, nL21, nL22, nL23, nL25, nL32, nL33, nL39, nL40, nL43, nL44, nL99, nL100, nL120, nL216, nL217, nL218, nL219, nL220, nL221, nL500, nL999, nL1000, nL10000, nL100000, sh33, zN_lt, zN_le, zN_eq, zN_ge0, zN_lt0, zN_nm, zN_mn, zN_mlt, zN_ltm, zN_lem, zN_mle, zN_m1, zN_m2, zN_addm, zN_ofNat, zN_beq, zN_add, zN_sub, zN_mul, zN_rem, qT_lt, qF_lt, qT_le, qF_le, qT_eq, qF_eq, ↓reduceIte, and_true, true_and, false_and, and_false, not_true_eq_false, not_false_eq_true, decide_true, decide_false, Bool.true_or, Bool.or_true, Bool.false_or, Bool.or_false, cond_true, cond_false, qAv, qAn, cond_true, Option.bind_some, List.getElem?_cons_succ, List.getElem?_cons_zero, hg, i1, lcL0, lcE0, zL_l0, l0, zL_eq, h4, b0, h3, a2]
        exact c3
      · rw [if_neg (fun hh => h3 (by have := hh.2.2; rw [e9] at this; exact this))]
        refine ⟨w, hC, frm_s, ?_⟩
        show _ = some (oC _ (0 + 1, 0) g w)
        rw [oC_s]
        simp (disch := omega) only [s_X7_runScript_0, s_X7_runScript_1, s_X7_runScript_2, s_X7_runScript_5, s_X7_runScript_6, s_X7_runScript_7, s_X7_runScript_10, s_X7_runScript_11, s_X7_runScript_12, s_X7_runScript_13, s_X7_runScript_16, s_X7_runScript_17, s_X7_runScript_18, s_X7_runScript_21, s_X7_runScript_22, s_X7_runScript_23, s_X7_runScript_26, s_X7_runScript_37, s_X7_runScript_38, s_X7_runScript_41, s_X7_runScript_42, s_X7_runScript_45, s_X7_runScript_48, s_X7_runScript_49, zN_neg1, nL0, nL1, nL2, nL3, nL4, nL5, nL6, nL7, nL8, nL9, nL10, nL11, nL12, nL13, nL14, nL20, nL21, nL22, nL23, nL25, nL32, nL33, nL39, nL40, nL43, nL44, nL99, nL100, nL120, nL216, nL217, nL218, nL219, nL220, nL221, nL500, nL999, nL1000, nL10000, nL100000, sh33, zN_lt, zN_le, zN_eq, zN_ge0, zN_lt0, zN_nm, zN_mn, zN_mlt, zN_ltm, zN_lem, zN_mle, zN_m1, zN_m2, zN_addm, zN_ofNat, zN_beq, zN_add, zN_sub, zN_mul, zN_rem, qT_lt, qF_lt, qT_le, qF_le, qT_eq, qF_eq, ↓reduceIte, and_true, true_and, false_and, and_false, not_true_eq_false, not_false_eq_true, decide_true, decide_false, Bool.true_or, Bool.or_true, Bool.false_or, Bool.or_false, cond_true, cond_false, qAv, qAn, cond_true, lcL0, lcE0, zL_l0, l0, zL_eq, h4, b0, h3]; rfl
    · rw [if_neg (fun hh => h2 hh.2.1)]
      refine ⟨w, hC, frm_s, ?_⟩
      show _ = some (oC _ (0 + 1, 0) g w)
      rw [oC_s]
      have h4 : sz.toInt < 0 := by omega
      simp (disch := omega) only [s_X7_runScript_0, s_X7_runScript_1, s_X7_runScript_2, s_X7_runScript_5, s_X7_runScript_6, s_X7_runScript_7, s_X7_runScript_10, s_X7_runScript_11, s_X7_runScript_12, s_X7_runScript_13, s_X7_runScript_16, s_X7_runScript_17, s_X7_runScript_18, s_X7_runScript_21, s_X7_runScript_22, s_X7_runScript_23, s_X7_runScript_26, s_X7_runScript_37, s_X7_runScript_38, s_X7_runScript_41, s_X7_runScript_42, s_X7_runScript_45, s_X7_runScript_48, s_X7_runScript_49, zN_neg1, nL0, nL1, nL2, nL3, nL4, nL5, nL6, nL7, nL8, nL9, nL10, nL11, nL12, nL13, nL14, nL20, nL21, nL22, nL23, nL25, nL32, nL33, nL39, nL40, nL43, nL44, nL99, nL100, nL120, nL216, nL217, nL218, nL219, nL220, nL221, nL500, nL999, nL1000, nL10000, nL100000, sh33, zN_lt, zN_le, zN_eq, zN_ge0, zN_lt0, zN_nm, zN_mn, zN_mlt, zN_ltm, zN_lem, zN_mle, zN_m1, zN_m2, zN_addm, zN_ofNat, zN_beq, zN_add, zN_sub, zN_mul, zN_rem, qT_lt, qF_lt, qT_le, qF_le, qT_eq, qF_eq, ↓reduceIte, and_true, true_and, false_and, and_false, not_true_eq_false, not_false_eq_true, decide_true, decide_false, Bool.true_or, Bool.or_true, Bool.false_or, Bool.or_false, cond_true, cond_false, lcL0, zL_l0, l0, h4]; rfl
  · rw [if_neg (fun hh => h1 hh.1)]
    refine ⟨w, hC, frm_s, ?_⟩
    show _ = some (oC _ (0 + 1, 0) g w)
    rw [oC_s]
    by_cases h2 : 1 ≤ pq.toInt
    · simp (disch := omega) only [s_X7_runScript_0, s_X7_runScript_1, s_X7_runScript_2, s_X7_runScript_5, s_X7_runScript_6, s_X7_runScript_7, s_X7_runScript_10, s_X7_runScript_11, s_X7_runScript_12, s_X7_runScript_13, s_X7_runScript_16, s_X7_runScript_17, s_X7_runScript_18, s_X7_runScript_21, s_X7_runScript_22, s_X7_runScript_23, s_X7_runScript_26, zN_neg1, nL0, nL1, nL2, nL3, nL4, nL5, nL6, nL7, nL8, nL9, nL10, nL11, nL12, nL13, nL14, nL20, nL21, nL22, nL23, nL25, nL32, nL33, nL39, nL40, nL43, nL44, nL99, nL100, nL120, nL216, nL217, nL218, nL219, nL220, nL221, nL500, nL999, nL1000, nL10000, nL100000, qLtI, qLeI, qEqI, zN_toInt, qM1I, iT_lt, iF_lt, iT_le, iF_le, iT_eq, iF_eq, ↓reduceIte, and_true, true_and, false_and, and_false, not_true_eq_false, not_false_eq_true, qAv, qAn, cond_true, cond_false, Option.bind_some, List.getElem?_cons_succ, List.getElem?_cons_zero]; rfl
    · simp (disch := omega) only [s_X7_runScript_0, s_X7_runScript_1, s_X7_runScript_2, s_X7_runScript_5, s_X7_runScript_6, s_X7_runScript_7, s_X7_runScript_10, s_X7_runScript_11, s_X7_runScript_12, s_X7_runScript_13, s_X7_runScript_16, s_X7_runScript_17, s_X7_runScript_18, s_X7_runScript_21, s_X7_runScript_22, s_X7_runScript_23, s_X7_runScript_26, zN_neg1, nL0, nL1, nL2, nL3, nL4, nL5, nL6, nL7, nL8, nL9, nL10, nL11, nL12, nL13, nL14, nL20, nL21, nL22, nL23, nL25, nL32, nL33, nL39, nL40, nL43, nL44, nL99, nL100, nL120, nL216, nL217, nL218, nL219, nL220, nL221, nL500, nL999, nL1000, nL10000, nL100000, qLtI, qLeI, qEqI, zN_toInt, qM1I, iT_lt, iF_lt, iT_le, iF_le, iT_eq, iF_eq, ↓reduceIte, and_true, true_and, false_and, and_false, not_true_eq_false, not_false_eq_true, qAv, qAn, cond_true, cond_false, Option.bind_some, List.getElem?_cons_succ, List.getElem?_cons_zero]; rfl
end QA

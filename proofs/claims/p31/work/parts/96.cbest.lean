/-! the pure part: the class: the best rule, shift, exchange -/
theorem pIn_lt {fq : Nat → Int32} {iq : Nat} : ∀ nq, pIn fq iq nq ≤ nq - 1
  | 0 => Nat.le_refl _
  | 1 => by unfold pIn pIn; rw [if_neg (by omega)]; exact Nat.le_refl _
  | nq + 2 => by have := @pIn_lt fq iq (nq + 1); unfold pIn; split <;> omega
theorem pOut_lt {fq : Nat → Int32} {nq : Nat} : ∀ iq, pOut fq nq iq ≤ iq * (nq - 1)
  | 0 => by unfold pOut; omega
  | iq + 1 => by
    have := @pOut_lt fq nq iq
    have := @pIn_lt fq iq nq
    unfold pOut; rw [Nat.succ_mul]; omega
def rlF (Aq : TA) (rq : Nat) : Int32 := zN (aWr (tTicks 999 (tNum Aq 2 rq)))
def shF (Aq : TA) (sq vq : Nat) : Int32 := if tIn 1000 0 (tNum Aq (16 + sq) vq) = zM then zN 1000 else tIn 1000 0 (tNum Aq (16 + sq) vq)
def gnF (Aq : TA) (kq oq : Nat) : Int32 := if kq ∈ tL Aq 0 ∨ oq ∈ tL Aq 0 then zN 0 else zN (aWr Aq) - zN (aWr (tSwap Aq kq oq))
abbrev T3 : Type := Int32 × Int32 × Int32
def bxS (Aq : TA) (kq oq : Nat) (st : T3) : T3 := if st.2.2 < gnF Aq kq oq then (zN kq, zN oq, gnF Aq kq oq) else st
def bxI (Aq : TA) (kq : Nat) : Nat → Nat → T3 → T3
  | 0, _, st => st
  | dq + 1, oq, st => bxI Aq kq dq (oq + 1) (bxS Aq kq oq st)
def bxO (Aq : TA) : Nat → Nat → T3 → T3
  | 0, _, st => st
  | dq + 1, kq, st => bxO Aq dq (kq + 1) (bxI Aq kq dq (kq + 1) st)
def fBest (Fq : FS) (pq : Int32) : Nat × Int32 := if 0 ≤ pq.toInt ∧ pq.toInt ≤ 2 then (0, if un pq = 0 then (bxO Fq.2.1 (tN Fq.2.1 1) 0 (zM, zM, zN 0)).1 else if un pq = 1 then (bxO Fq.2.1 (tN Fq.2.1 1) 0 (zM, zM, zN 0)).2.1 else (bxO Fq.2.1 (tN Fq.2.1 1) 0 (zM, zM, zN 0)).2.2) else (1, 0)
def fBShift (Fq : FS) (kq : Int32) : Nat × Int32 := if isSd Fq.2.1 kq then (0, zN (am (shF Fq.2.1 (un kq)) 40)) else (1, 0)
section QA
variable {so : Nat → Nat} {g : pwG} {xx bq : Nat} {w w1 : pwW} {Fq : FS} {pq kq rq tq uq : Int32} {Aq Bq : TA} {xq : Int64} {sc : Nat → Int32} {Rq : Nat → Nat → Int32}
theorem aWr_le (hI : invT Aq) : aWr Aq ≤ 90 := by
  have h4 := hI.1
  have h := @pOut_lt (fun iq => zN ((wAll Aq).getD iq 0)) (tN Aq 1) (tN Aq 1)
  have h3 : tN Aq 1 - 1 ≤ 9 := by have := h4.2.1; omega
  have h2 : tN Aq 1 * (tN Aq 1 - 1) ≤ 10 * 9 := Nat.mul_le_mul h4.2.1 h3
  unfold aWr; omega
theorem aWr_same (h1 : tL Bq = tL Aq) (h2 : tC Bq = tC Aq) (h3 : tN Bq = tN Aq) : aWr Bq = aWr Aq := by
  unfold aWr
  rw [wAll_same h1 h2 (by rw [h3]), h3]
theorem tIn_val : ∀ (dq nq : Nat) (Aq : TA), tIn dq nq Aq = zM ∨ ∃ mq, mq < nq + dq ∧ tIn dq nq Aq = zN mq
  | 0, nq, Aq => Or.inl rfl
  | dq + 1, nq, Aq => by
    unfold tIn
    split
    · exact Or.inr ⟨nq, by omega, rfl⟩
    · rcases tIn_val dq (nq + 1) (tTick Aq) with h | ⟨mq, h1, h2⟩
      · exact Or.inl h
      · exact Or.inr ⟨mq, by omega, h2⟩
theorem x_rule7 (hI0 : invT Fq.2.1) : ∀ (dq rz : Nat) (w : pwW) (o4 : Option Value), rz + dq = 4 → clsW xx Fq w → ∃ w1, clsW xx Fq w1 ∧ frm xx w w1 ∧ pwX so 117 7 [some (.ref xx), some (.int (zN (am (rlF Fq.2.1) rz))), some (.int ((if rz = 0 then zN 100 else rlF Fq.2.1 (am (rlF Fq.2.1) rz)))), some (.int (zN rz)), o4] [] g w = some (.inl (some (.int (zN (am (rlF Fq.2.1) 4)))), g, w1) := by
  intro dq
  induction dq with
  | zero =>
    intro rz w o4 h1 hC
    have h1 : rz = 4 := by omega
    subst h1
    refine ⟨w, hC, frm_s, ?_⟩
    simp (disch := omega) only [s_X7_bestRule_0, s_X7_bestRule_1, s_X7_bestRule_2, s_X7_bestRule_4, s_X7_bestRule_5, s_X7_bestRule_6, s_X7_bestRule_7, s_X7_bestRule_8, s_X7_bestRule_9, s_X7_bestRule_12, s_X7_bestRule_13, s_X7_bestRule_16, s_X7_bestRule_17, s_X7_bestRule_20, s_X7_bestRule_23, s_X7_bestRule_24, s_X7_bestRule_27, s_X7_bestRule_28, s_X7_bestRule_31, s_X7_bestRule_32, s_X7_bestRule_35, s_X7_bestRule_38, s_X7_bestRule_41, s_X7_bestRule_42, s_X7_bestRule_45, s_X7_bestRule_48, s_X7_bestRule_50, s_X7_bestRule_52, s_X7_bestRule_53, s_X7_bestRule_56, s_X7_bestRule_58, s_X7_bestRule_59, s_X7_bestRule_60, s_X7_bestRule_61, s_X7_bestRule_64, s_X7_bestRule_67, s_X7_bestRule_68, zN_neg1, nL0, nL1, nL2, nL3, nL4, nL5, nL6, nL7, nL8, nL9, nL10, nL11, nL12, nL13, nL14, nL20, nL21, nL22, nL23, nL25, nL32, nL33, nL39, nL40, nL43, nL44, nL99, nL100, nL120, nL216, nL217, nL218, nL219, nL220, nL221, nL500, nL999, nL1000, nL10000, nL100000, sh33, zN_lt, zN_le, zN_eq, zN_ge0, zN_lt0, zN_nm, zN_mn, zN_mlt, zN_ltm, zN_lem, zN_mle, zN_m1, zN_m2, zN_addm, zN_ofNat, zN_beq, zN_add, zN_sub, zN_mul, zN_rem, qT_lt, qF_lt, qT_le, qF_le, qT_eq, qF_eq, ↓reduceIte, and_true, true_and, false_and, and_false, not_true_eq_false, not_false_eq_true, decide_true, decide_false, Bool.true_or, Bool.or_true, Bool.false_or, Bool.or_false, cond_true, cond_false]
  | succ dq ih =>
    intro rz w o4 h1 hC
    have hg := @hx_g xx w Fq hC
    obtain ⟨xb, sb, Rb, hI, a1, i1, a2⟩ := @tri_ so g xx w Fq hC
    have hg3 := @hx_g xx _ _ (@cls_trial xx w xb sb Rb Fq hC)
    obtain ⟨b1, -⟩ := @c_rule so g (xx + 19) xb sb Rb w Fq.2.1 rz a1
    have hg4 := @hx_g xx _ _ (@cls_trial xx w xb (upd sb 3 (zN rz)) Rb Fq hC)
    have hJ : invT (tNum Fq.2.1 2 rz) := inv_Num hI (Or.inl ⟨rfl, by omega⟩)
    obtain ⟨B9, x1, s1, R1, hB, c1, c2, c3⟩ := @c_run so g (xx + 19) xb (upd sb 3 (zN rz)) Rb w (tNum Fq.2.1 2 rz) 999 (by decide) hJ b1
    have hC5 := @cls_trial xx w x1 s1 R1 Fq hC
    have hg5 := @hx_g xx _ _ hC5
    have d1 := @c_wrong so g (xx + 19) x1 s1 R1 w B9 hB c1
    obtain ⟨z1, z2, z3, z4⟩ := sT_eq c2
    have hW := aWr_le hB
    have e1 : aWr B9 = aWr (tTicks 999 (tNum Fq.2.1 2 rz)) := aWr_same z1 z2 z3
    have e2 : zN (aWr B9) = rlF Fq.2.1 rz := by rw [e1]; rfl
    have e3 : ∀ r9, r9 < 4 → ∃ v9, v9 ≤ 90 ∧ rlF Fq.2.1 r9 = zN v9 := fun r9 h9 => ⟨_, aWr_le (inv_Ticks 999 _ (inv_Num hI0 (Or.inl ⟨rfl, by omega⟩))), rfl⟩
    rw [e2] at d1
    have go : ∀ (v1 v2 : Int32), v1 = zN (am (rlF Fq.2.1) (rz + 1)) → v2 = rlF Fq.2.1 (am (rlF Fq.2.1) (rz + 1)) → ∃ w1, clsW xx Fq w1 ∧ frm xx w w1 ∧ pwX so 117 7 [some (.ref xx), some (.int v1), some (.int v2), some (.int (zN (rz + 1))), some (.int (rlF Fq.2.1 rz))] [] g (mkT (xx + 19) x1 s1 R1 w) = some (.inl (some (.int (zN (am (rlF Fq.2.1) 4)))), g, w1) := fun v1 v2 h2 h3 => by
      obtain ⟨wz, y1, y2, y3⟩ := ih (rz + 1) (mkT (xx + 19) x1 s1 R1 w) (some (.int (rlF Fq.2.1 rz))) (by omega) hC5
      rw [if_neg (Nat.succ_ne_zero _)] at y3
      exact ⟨wz, y1, frm_t (frm_T (by omega) (by omega)) y2, by rw [h2, h3]; exact y3⟩
    rw [s_X7_bestRule_7]
    have hrz : rz < 4 := by omega
    by_cases h0 : rz = 0
    · subst h0
      rw [if_pos rfl]
      obtain ⟨v9, y1, y2⟩ := e3 0 (by omega)
      have lt : ¬ zN 100 ≤ rlF Fq.2.1 0 := by rw [y2, zN_le (by decide) (by omega)]; omega
      obtain ⟨wz, y3, y4, y5⟩ := go (zN 0) (rlF Fq.2.1 0) (by unfold am am; split <;> rfl) (by rw [show am (rlF Fq.2.1) (0 + 1) = 0 from by unfold am am; split <;> rfl])
      refine ⟨wz, y3, y4, ?_⟩
      rw [← y5]
      simp (disch := omega) only [s_X7_bestRule_8, s_X7_bestRule_9, s_X7_bestRule_12, s_X7_bestRule_13, s_X7_bestRule_16, s_X7_bestRule_17, s_X7_bestRule_20, s_X7_bestRule_23, s_X7_bestRule_24, s_X7_bestRule_27, s_X7_bestRule_28, s_X7_bestRule_31, s_X7_bestRule_32, s_X7_bestRule_35, s_X7_bestRule_38, s_X7_bestRule_41, s_X7_bestRule_42, s_X7_bestRule_45, s_X7_bestRule_48, s_X7_bestRule_50, s_X7_bestRule_52, s_X7_bestRule_53, s_X7_bestRule_56, s_X7_bestRule_58, s_X7_bestRule_59, s_X7_bestRule_60, s_X7_bestRule_61, s_X7_bestRule_64, zN_neg1, nL0, nL1, nL2, nL3, nL4, nL5, nL6, nL7, nL8, nL9, nL10, nL11, nL12, nL13, nL14, nL20, nL21, nL22, nL23, nL25, nL32, nL33, nL39, nL40, nL43, nL44, nL99, nL100, nL120, nL216, nL217, nL218, nL219, nL220, nL221, nL500, nL999, nL1000, nL10000, nL100000, sh33, zN_lt, zN_le, zN_eq, zN_ge0, zN_lt0, zN_nm, zN_mn, zN_mlt, zN_ltm, zN_lem, zN_mle, zN_m1, zN_m2, zN_addm, zN_ofNat, zN_beq, zN_add, zN_sub, zN_mul, zN_rem, qT_lt, qF_lt, qT_le, qF_le, qT_eq, qF_eq, ↓reduceIte, and_true, true_and, false_and, and_false, not_true_eq_false, not_false_eq_true, decide_true, decide_false, Bool.true_or, Bool.or_true, Bool.false_or, Bool.or_false, cond_true, cond_false, qAv, qAn, Option.bind_some, List.getElem?_cons_succ, List.getElem?_cons_zero, hg, hg3, hg4, hg5, i1, mkT_i, a2, ↓tp3, c3, d1, lt]
    · rw [if_neg h0]
      by_cases h6 : rlF Fq.2.1 rz < rlF Fq.2.1 (am (rlF Fq.2.1) rz)
      · have h7 := Int32.not_le.mpr h6
        obtain ⟨wz, y3, y4, y5⟩ := go (zN rz) (rlF Fq.2.1 rz) (by rw [show am (rlF Fq.2.1) (rz + 1) = rz from if_pos h6]) (by rw [show am (rlF Fq.2.1) (rz + 1) = rz from if_pos h6])
        refine ⟨wz, y3, y4, ?_⟩
        rw [← y5]
        simp (disch := omega) only [s_X7_bestRule_8, s_X7_bestRule_9, s_X7_bestRule_12, s_X7_bestRule_13, s_X7_bestRule_16, s_X7_bestRule_17, s_X7_bestRule_20, s_X7_bestRule_23, s_X7_bestRule_24, s_X7_bestRule_27, s_X7_bestRule_28, s_X7_bestRule_31, s_X7_bestRule_32, s_X7_bestRule_35, s_X7_bestRule_38, s_X7_bestRule_41, s_X7_bestRule_42, s_X7_bestRule_45, s_X7_bestRule_48, s_X7_bestRule_50, s_X7_bestRule_52, s_X7_bestRule_53, s_X7_bestRule_56, s_X7_bestRule_58, s_X7_bestRule_59, s_X7_bestRule_60, s_X7_bestRule_61, s_X7_bestRule_64, zN_neg1, nL0, nL1, nL2, nL3, nL4, nL5, nL6, nL7, nL8, nL9, nL10, nL11, nL12, nL13, nL14, nL20, nL21, nL22, nL23, nL25, nL32, nL33, nL39, nL40, nL43, nL44, nL99, nL100, nL120, nL216, nL217, nL218, nL219, nL220, nL221, nL500, nL999, nL1000, nL10000, nL100000, sh33, zN_lt, zN_le, zN_eq, zN_ge0, zN_lt0, zN_nm, zN_mn, zN_mlt, zN_ltm, zN_lem, zN_mle, zN_m1, zN_m2, zN_addm, zN_ofNat, zN_beq, zN_add, zN_sub, zN_mul, zN_rem, qT_lt, qF_lt, qT_le, qF_le, qT_eq, qF_eq, ↓reduceIte, and_true, true_and, false_and, and_false, not_true_eq_false, not_false_eq_true, decide_true, decide_false, Bool.true_or, Bool.or_true, Bool.false_or, Bool.or_false, cond_true, cond_false, qAv, qAn, Option.bind_some, List.getElem?_cons_succ, List.getElem?_cons_zero, hg, hg3, hg4, hg5, i1, mkT_i, a2, ↓tp3, c3, d1, h7]
      · have h7 := Int32.not_lt.mp h6
        obtain ⟨wz, y3, y4, y5⟩ := go (zN (am (rlF Fq.2.1) rz)) (rlF Fq.2.1 (am (rlF Fq.2.1) rz)) (by rw [show am (rlF Fq.2.1) (rz + 1) = am (rlF Fq.2.1) rz from if_neg h6]) (by rw [show am (rlF Fq.2.1) (rz + 1) = am (rlF Fq.2.1) rz from if_neg h6])
        refine ⟨wz, y3, y4, ?_⟩
        rw [← y5]
        simp (disch := omega) only [s_X7_bestRule_8, s_X7_bestRule_9, s_X7_bestRule_12, s_X7_bestRule_13, s_X7_bestRule_16, s_X7_bestRule_17, s_X7_bestRule_20, s_X7_bestRule_23, s_X7_bestRule_24, s_X7_bestRule_27, s_X7_bestRule_28, s_X7_bestRule_31, s_X7_bestRule_32, s_X7_bestRule_35, s_X7_bestRule_38, s_X7_bestRule_41, s_X7_bestRule_42, s_X7_bestRule_45, s_X7_bestRule_48, s_X7_bestRule_50, s_X7_bestRule_52, s_X7_bestRule_53, s_X7_bestRule_56, s_X7_bestRule_58, s_X7_bestRule_59, s_X7_bestRule_60, s_X7_bestRule_61, s_X7_bestRule_64, zN_neg1, nL0, nL1, nL2, nL3, nL4, nL5, nL6, nL7, nL8, nL9, nL10, nL11, nL12, nL13, nL14, nL20, nL21, nL22, nL23, nL25, nL32, nL33, nL39, nL40, nL43, nL44, nL99, nL100, nL120, nL216, nL217, nL218, nL219, nL220, nL221, nL500, nL999, nL1000, nL10000, nL100000, sh33, zN_lt, zN_le, zN_eq, zN_ge0, zN_lt0, zN_nm, zN_mn, zN_mlt, zN_ltm, zN_lem, zN_mle, zN_m1, zN_m2, zN_addm, zN_ofNat, zN_beq, zN_add, zN_sub, zN_mul, zN_rem, qT_lt, qF_lt, qT_le, qF_le, qT_eq, qF_eq, ↓reduceIte, and_true, true_and, false_and, and_false, not_true_eq_false, not_false_eq_true, decide_true, decide_false, Bool.true_or, Bool.or_true, Bool.false_or, Bool.or_false, cond_true, cond_false, qAv, qAn, Option.bind_some, List.getElem?_cons_succ, List.getElem?_cons_zero, hg, hg3, hg4, hg5, i1, mkT_i, a2, ↓tp3, c3, d1, h7]
theorem x_bestRule (hC : clsW xx Fq w) : ∃ w1, clsW xx Fq w1 ∧ frm xx w w1 ∧ pwX so 117 0 [some (.ref xx), none, none, none, none] [] g w = some (oC (fun _ => 0) (0, zN (am (rlF Fq.2.1) 4)) g w1) := by
  obtain ⟨w1, a, b, c⟩ := @x_rule7 so g xx Fq hC.2.1.1 4 0 w none (by omega) hC
  refine ⟨w1, a, b, ?_⟩
  rw [oC_0]
  simp (disch := omega) only [s_X7_bestRule_0, s_X7_bestRule_1, s_X7_bestRule_2, s_X7_bestRule_4, s_X7_bestRule_5, s_X7_bestRule_6, zN_neg1, nL0, nL1, nL2, nL3, nL4, nL5, nL6, nL7, nL8, nL9, nL10, nL11, nL12, nL13, nL14, nL20, nL21, nL22, nL23, nL25, nL32, nL33, nL39, nL40, nL43, nL44, nL99, nL100, nL120, nL216, nL217, nL218, nL219, nL220, nL221, nL500, nL999, nL1000, nL10000, nL100000]
  exact c
/-- what is least so far, as the class keeps it -/
def soo (Aq : TA) (sq vq : Nat) : Int32 := if vq = 0 then zN 1000 else if shF Aq sq (am (shF Aq sq) vq) = zN 1000 then zN 1000 else shF Aq sq (am (shF Aq sq) vq)
theorem shF_val {sq vq : Nat} : ∃ mq, mq ≤ 1000 ∧ shF Aq sq vq = zN mq ∧ (tIn 1000 0 (tNum Aq (16 + sq) vq) = zM ↔ mq = 1000) ∧ (mq < 1000 → tIn 1000 0 (tNum Aq (16 + sq) vq) = zN mq) := by
  rcases tIn_val 1000 0 (tNum Aq (16 + sq) vq) with h | ⟨mq, h1, h2⟩
  · refine ⟨1000, Nat.le_refl _, if_pos h, ⟨fun _ => rfl, fun _ => h⟩, fun hh => absurd hh (Nat.lt_irrefl _)⟩
  · have h3 : ¬ tIn 1000 0 (tNum Aq (16 + sq) vq) = zM := by rw [h2, zN_nm (by omega)]; exact id
    exact ⟨mq, by omega, by unfold shF; rw [if_neg h3, h2], ⟨fun h => absurd h h3, fun h => by omega⟩, fun _ => h2⟩
theorem x_shift33 {k9 : Nat} (hk : k9 < tN Fq.2.1 0) : ∀ (dq vz : Nat) (w : pwW) (o5 : Option Value), vz + dq = 40 → clsW xx Fq w → ∃ w1, clsW xx Fq w1 ∧ frm xx w w1 ∧ pwX so 118 33 [some (.ref xx), some (.int (zN k9)), some (.int (zN (am (shF Fq.2.1 k9) vz))), some (.int (soo Fq.2.1 k9 vz)), some (.int (zN vz)), o5] [] g w = some (.inl (some (.int (zN (am (shF Fq.2.1 k9) 40)))), g, w1) := by
  intro dq
  induction dq with
  | zero =>
    intro vz w o5 h1 hC
    have h1 : vz = 40 := by omega
    subst h1
    refine ⟨w, hC, frm_s, ?_⟩
    simp (disch := omega) only [s_X7_bestShift_0, s_X7_bestShift_1, s_X7_bestShift_4, s_X7_bestShift_7, s_X7_bestShift_8, s_X7_bestShift_11, s_X7_bestShift_14, s_X7_bestShift_24, s_X7_bestShift_25, s_X7_bestShift_26, s_X7_bestShift_29, s_X7_bestShift_30, s_X7_bestShift_31, s_X7_bestShift_33, s_X7_bestShift_35, s_X7_bestShift_37, s_X7_bestShift_40, s_X7_bestShift_41, s_X7_bestShift_44, s_X7_bestShift_45, s_X7_bestShift_48, s_X7_bestShift_51, s_X7_bestShift_52, s_X7_bestShift_55, s_X7_bestShift_58, s_X7_bestShift_59, s_X7_bestShift_61, s_X7_bestShift_64, s_X7_bestShift_65, s_X7_bestShift_66, s_X7_bestShift_69, s_X7_bestShift_72, s_X7_bestShift_74, s_X7_bestShift_76, s_X7_bestShift_77, s_X7_bestShift_80, s_X7_bestShift_82, s_X7_bestShift_83, s_X7_bestShift_86, s_X7_bestShift_88, s_X7_bestShift_89, s_X7_bestShift_91, s_X7_bestShift_92, s_X7_bestShift_95, s_X7_bestShift_98, s_X7_bestShift_99, zN_neg1, nL0, nL1, nL2, nL3, nL4, nL5, nL6, nL7, nL8, nL9, nL10, nL11, nL12, nL13, nL14, nL20, nL21, nL22, nL23, nL25, nL32, nL33, nL39, nL40, nL43, nL44, nL99, nL100, nL120, nL216, nL217, nL218, nL219, nL220, nL221, nL500, nL999, nL1000, nL10000, nL100000, sh33, zN_lt, zN_le, zN_eq, zN_ge0, zN_lt0, zN_nm, zN_mn, zN_mlt, zN_ltm, zN_lem, zN_mle, zN_m1, zN_m2, zN_addm, zN_ofNat, zN_beq, zN_add, zN_sub, zN_mul, zN_rem, qT_lt, qF_lt, qT_le, qF_le, qT_eq, qF_eq, ↓reduceIte, and_true, true_and, false_and, and_false, not_true_eq_false, not_false_eq_true, decide_true, decide_false, Bool.true_or, Bool.or_true, Bool.false_or, Bool.or_false, cond_true, cond_false]
  | succ dq ih =>
    intro vz w o5 h1 hC
    have hg := @hx_g xx w Fq hC
    obtain ⟨xb, sb, Rb, hI, a1, i1, a2⟩ := @tri_ so g xx w Fq hC
    have hg3 := @hx_g xx _ _ (@cls_trial xx w xb sb Rb Fq hC)
    obtain ⟨R4, b1, b2⟩ := @c_shift so g (xx + 19) xb sb Rb w Fq.2.1 k9 vz hI a1 hk
    have hg4 := @hx_g xx _ _ (@cls_trial xx w xb sb R4 Fq hC)
    have h4 := hI.1
    have hJ : invT (tNum Fq.2.1 (16 + k9) vz) := inv_Num hI (Or.inr (Or.inr ⟨by omega, by omega, by omega⟩))
    obtain ⟨x1, s1, R1, c3⟩ := @c_until so g (xx + 19) xb sb R4 w (tNum Fq.2.1 (16 + k9) vz) hJ b1
    have hC5 := @cls_trial xx w x1 s1 R1 Fq hC
    obtain ⟨mq, m1, m2, m3, m4⟩ := @shF_val Fq.2.1 k9 vz
    obtain ⟨mb, n1, n2, n3, n4⟩ := @shF_val Fq.2.1 k9 (am (shF Fq.2.1 k9) vz)
    have hsn : soo Fq.2.1 k9 (vz + 1) = if shF Fq.2.1 k9 (am (shF Fq.2.1 k9) (vz + 1)) = zN 1000 then zN 1000 else shF Fq.2.1 k9 (am (shF Fq.2.1 k9) (vz + 1)) := if_neg (Nat.succ_ne_zero _)
    have go : ∀ (v1 v2 v3 : Int32), v1 = zN (am (shF Fq.2.1 k9) (vz + 1)) → v2 = soo Fq.2.1 k9 (vz + 1) → ∃ w1, clsW xx Fq w1 ∧ frm xx w w1 ∧ pwX so 118 33 [some (.ref xx), some (.int (zN k9)), some (.int v1), some (.int v2), some (.int (zN (vz + 1))), some (.int v3)] [] g (mkT (xx + 19) x1 s1 R1 w) = some (.inl (some (.int (zN (am (shF Fq.2.1 k9) 40)))), g, w1) := fun v1 v2 v3 h2 h3 => by
      obtain ⟨wz, y1, y2, y3⟩ := ih (vz + 1) (mkT (xx + 19) x1 s1 R1 w) (some (.int v3)) (by omega) hC5
      exact ⟨wz, y1, frm_t (frm_T (by omega) (by omega)) y2, by rw [h2, h3]; exact y3⟩
    rw [s_X7_bestShift_33]
    by_cases hM : mq = 1000
    · have hw := m3.mpr hM
      rw [hw] at c3
      -- no answer: nothing changes
      have ham : am (shF Fq.2.1 k9) (vz + 1) = am (shF Fq.2.1 k9) vz := by
        show (if shF Fq.2.1 k9 vz < shF Fq.2.1 k9 (am (shF Fq.2.1 k9) vz) then vz else am (shF Fq.2.1 k9) vz) = _
        rw [m2, n2, hM, if_neg (by rw [zN_lt (by decide) (by omega)]; omega)]
      have hso : soo Fq.2.1 k9 vz = soo Fq.2.1 k9 (vz + 1) := by
        rw [hsn, ham]
        unfold soo
        by_cases h0 : vz = 0
        · subst h0
          rw [if_pos rfl, show am (shF Fq.2.1 k9) 0 = 0 from rfl, m2, hM, if_pos rfl]
        · rw [if_neg h0]
      obtain ⟨wz, y3, y4, y5⟩ := go (zN (am (shF Fq.2.1 k9) vz)) (soo Fq.2.1 k9 vz) zM (by rw [ham]) hso
      refine ⟨wz, y3, y4, ?_⟩
      rw [← y5]
      simp (disch := omega) only [s_X7_bestShift_35, s_X7_bestShift_37, s_X7_bestShift_40, s_X7_bestShift_41, s_X7_bestShift_44, s_X7_bestShift_45, s_X7_bestShift_48, s_X7_bestShift_51, s_X7_bestShift_52, s_X7_bestShift_55, s_X7_bestShift_58, s_X7_bestShift_59, s_X7_bestShift_61, s_X7_bestShift_64, s_X7_bestShift_65, s_X7_bestShift_66, s_X7_bestShift_69, s_X7_bestShift_72, s_X7_bestShift_74, s_X7_bestShift_76, s_X7_bestShift_77, s_X7_bestShift_80, s_X7_bestShift_82, s_X7_bestShift_83, s_X7_bestShift_86, s_X7_bestShift_88, s_X7_bestShift_89, s_X7_bestShift_91, s_X7_bestShift_92, s_X7_bestShift_95, zN_neg1, nL0, nL1, nL2, nL3, nL4, nL5, nL6, nL7, nL8, nL9, nL10, nL11, nL12, nL13, nL14, nL20, nL21, nL22, nL23, nL25, nL32, nL33, nL39, nL40, nL43, nL44, nL99, nL100, nL120, nL216, nL217, nL218, nL219, nL220, nL221, nL500, nL999, nL1000, nL10000, nL100000, sh33, zN_lt, zN_le, zN_eq, zN_ge0, zN_lt0, zN_nm, zN_mn, zN_mlt, zN_ltm, zN_lem, zN_mle, zN_m1, zN_m2, zN_addm, zN_ofNat, zN_beq, zN_add, zN_sub, zN_mul, zN_rem, qT_lt, qF_lt, qT_le, qF_le, qT_eq, qF_eq, ↓reduceIte, and_true, true_and, false_and, and_false, not_true_eq_false, not_false_eq_true, decide_true, decide_false, Bool.true_or, Bool.or_true, Bool.false_or, Bool.or_false, cond_true, cond_false, qAv, qAn, cond_true, Option.bind_some, List.getElem?_cons_succ, List.getElem?_cons_zero, hg, hg3, hg4, i1, mkT_i, mkT_is, a2, ↓tg0, b2, c3]
    · have hw := m4 (by omega)
      rw [hw] at c3
      by_cases h0 : vz = 0
      · subst h0
        have ham : am (shF Fq.2.1 k9) (0 + 1) = 0 := by unfold am am; split <;> rfl
        have hs0 : soo Fq.2.1 k9 0 = zN 1000 := rfl
        obtain ⟨wz, y3, y4, y5⟩ := go (zN 0) (zN mq) (zN mq) (by rw [ham]) (by rw [hsn, ham, m2, if_neg (by rw [zN_eq (by omega) (by decide)]; exact hM)])
        refine ⟨wz, y3, y4, ?_⟩
        rw [← y5, hs0]
        simp (disch := omega) only [s_X7_bestShift_35, s_X7_bestShift_37, s_X7_bestShift_40, s_X7_bestShift_41, s_X7_bestShift_44, s_X7_bestShift_45, s_X7_bestShift_48, s_X7_bestShift_51, s_X7_bestShift_52, s_X7_bestShift_55, s_X7_bestShift_58, s_X7_bestShift_59, s_X7_bestShift_61, s_X7_bestShift_64, s_X7_bestShift_65, s_X7_bestShift_66, s_X7_bestShift_69, s_X7_bestShift_72, s_X7_bestShift_74, s_X7_bestShift_76, s_X7_bestShift_77, s_X7_bestShift_80, s_X7_bestShift_82, s_X7_bestShift_83, s_X7_bestShift_86, s_X7_bestShift_88, s_X7_bestShift_89, s_X7_bestShift_91, s_X7_bestShift_92, s_X7_bestShift_95, zN_neg1, nL0, nL1, nL2, nL3, nL4, nL5, nL6, nL7, nL8, nL9, nL10, nL11, nL12, nL13, nL14, nL20, nL21, nL22, nL23, nL25, nL32, nL33, nL39, nL40, nL43, nL44, nL99, nL100, nL120, nL216, nL217, nL218, nL219, nL220, nL221, nL500, nL999, nL1000, nL10000, nL100000, sh33, zN_lt, zN_le, zN_eq, zN_ge0, zN_lt0, zN_nm, zN_mn, zN_mlt, zN_ltm, zN_lem, zN_mle, zN_m1, zN_m2, zN_addm, zN_ofNat, zN_beq, zN_add, zN_sub, zN_mul, zN_rem, qT_lt, qF_lt, qT_le, qF_le, qT_eq, qF_eq, ↓reduceIte, and_true, true_and, false_and, and_false, not_true_eq_false, not_false_eq_true, decide_true, decide_false, Bool.true_or, Bool.or_true, Bool.false_or, Bool.or_false, cond_true, cond_false, qAv, qAn, cond_true, Option.bind_some, List.getElem?_cons_succ, List.getElem?_cons_zero, hg, hg3, hg4, i1, mkT_i, mkT_is, a2, ↓tg0, b2, c3]
      · by_cases h6 : mq < mb
        · have ham : am (shF Fq.2.1 k9) (vz + 1) = vz := by
            show (if shF Fq.2.1 k9 vz < shF Fq.2.1 k9 (am (shF Fq.2.1 k9) vz) then vz else am (shF Fq.2.1 k9) vz) = _
            rw [m2, n2, if_pos (by rw [zN_lt (by omega) (by omega)]; exact h6)]
          obtain ⟨wz, y3, y4, y5⟩ := go (zN vz) (zN mq) (zN mq) (by rw [ham]) (by rw [hsn, ham, m2, if_neg (by rw [zN_eq (by omega) (by decide)]; exact hM)])
          refine ⟨wz, y3, y4, ?_⟩
          rw [← y5]
          have hs0 : ∃ vs, soo Fq.2.1 k9 vz = zN vs ∧ mq < vs ∧ vs < 2147483648 := by
            unfold soo
            rw [if_neg h0, n2]
            by_cases hb : mb = 1000
            · rw [if_pos (by rw [hb])]; exact ⟨_, rfl, by omega, by decide⟩
            · rw [if_neg (by rw [zN_eq (by omega) (by decide)]; exact hb)]; exact ⟨_, rfl, h6, by omega⟩
          obtain ⟨vs, q1, q2, q3⟩ := hs0
          rw [q1]
          simp (disch := omega) only [s_X7_bestShift_35, s_X7_bestShift_37, s_X7_bestShift_40, s_X7_bestShift_41, s_X7_bestShift_44, s_X7_bestShift_45, s_X7_bestShift_48, s_X7_bestShift_51, s_X7_bestShift_52, s_X7_bestShift_55, s_X7_bestShift_58, s_X7_bestShift_59, s_X7_bestShift_61, s_X7_bestShift_64, s_X7_bestShift_65, s_X7_bestShift_66, s_X7_bestShift_69, s_X7_bestShift_72, s_X7_bestShift_74, s_X7_bestShift_76, s_X7_bestShift_77, s_X7_bestShift_80, s_X7_bestShift_82, s_X7_bestShift_83, s_X7_bestShift_86, s_X7_bestShift_88, s_X7_bestShift_89, s_X7_bestShift_91, s_X7_bestShift_92, s_X7_bestShift_95, zN_neg1, nL0, nL1, nL2, nL3, nL4, nL5, nL6, nL7, nL8, nL9, nL10, nL11, nL12, nL13, nL14, nL20, nL21, nL22, nL23, nL25, nL32, nL33, nL39, nL40, nL43, nL44, nL99, nL100, nL120, nL216, nL217, nL218, nL219, nL220, nL221, nL500, nL999, nL1000, nL10000, nL100000, sh33, zN_lt, zN_le, zN_eq, zN_ge0, zN_lt0, zN_nm, zN_mn, zN_mlt, zN_ltm, zN_lem, zN_mle, zN_m1, zN_m2, zN_addm, zN_ofNat, zN_beq, zN_add, zN_sub, zN_mul, zN_rem, qT_lt, qF_lt, qT_le, qF_le, qT_eq, qF_eq, ↓reduceIte, and_true, true_and, false_and, and_false, not_true_eq_false, not_false_eq_true, decide_true, decide_false, Bool.true_or, Bool.or_true, Bool.false_or, Bool.or_false, cond_true, cond_false, qAv, qAn, cond_true, Option.bind_some, List.getElem?_cons_succ, List.getElem?_cons_zero, hg, hg3, hg4, i1, mkT_i, mkT_is, a2, ↓tg0, b2, c3]
        · have ham : am (shF Fq.2.1 k9) (vz + 1) = am (shF Fq.2.1 k9) vz := by
            show (if shF Fq.2.1 k9 vz < shF Fq.2.1 k9 (am (shF Fq.2.1 k9) vz) then vz else am (shF Fq.2.1 k9) vz) = _
            rw [m2, n2, if_neg (by rw [zN_lt (by omega) (by omega)]; exact h6)]
          have hs0 : soo Fq.2.1 k9 vz = zN mb := by
            unfold soo
            rw [if_neg h0, n2, if_neg (by rw [zN_eq (by omega) (by decide)]; omega)]
          obtain ⟨wz, y3, y4, y5⟩ := go (zN (am (shF Fq.2.1 k9) vz)) (zN mb) (zN mq) (by rw [ham]) (by rw [hsn, ham, n2, if_neg (by rw [zN_eq (by omega) (by decide)]; omega)])
          refine ⟨wz, y3, y4, ?_⟩
          rw [← y5, hs0]
          simp (disch := omega) only [s_X7_bestShift_35, s_X7_bestShift_37, s_X7_bestShift_40, s_X7_bestShift_41, s_X7_bestShift_44, s_X7_bestShift_45, s_X7_bestShift_48, s_X7_bestShift_51, s_X7_bestShift_52, s_X7_bestShift_55, s_X7_bestShift_58, s_X7_bestShift_59, s_X7_bestShift_61, s_X7_bestShift_64, s_X7_bestShift_65, s_X7_bestShift_66, s_X7_bestShift_69, s_X7_bestShift_72, s_X7_bestShift_74, s_X7_bestShift_76, s_X7_bestShift_77, s_X7_bestShift_80, s_X7_bestShift_82, s_X7_bestShift_83, s_X7_bestShift_86, s_X7_bestShift_88, s_X7_bestShift_89, s_X7_bestShift_91, s_X7_bestShift_92, s_X7_bestShift_95, zN_neg1, nL0, nL1, nL2, nL3, nL4, nL5, nL6, nL7, nL8, nL9, nL10, nL11, nL12, nL13, nL14, nL20, nL21, nL22, nL23, nL25, nL32, nL33, nL39, nL40, nL43, nL44, nL99, nL100, nL120, nL216, nL217, nL218, nL219, nL220, nL221, nL500, nL999, nL1000, nL10000, nL100000, sh33, zN_lt, zN_le, zN_eq, zN_ge0, zN_lt0, zN_nm, zN_mn, zN_mlt, zN_ltm, zN_lem, zN_mle, zN_m1, zN_m2, zN_addm, zN_ofNat, zN_beq, zN_add, zN_sub, zN_mul, zN_rem, qT_lt, qF_lt, qT_le, qF_le, qT_eq, qF_eq, ↓reduceIte, and_true, true_and, false_and, and_false, not_true_eq_false, not_false_eq_true, decide_true, decide_false, Bool.true_or, Bool.or_true, Bool.false_or, Bool.or_false, cond_true, cond_false, qAv, qAn, cond_true, Option.bind_some, List.getElem?_cons_succ, List.getElem?_cons_zero, hg, hg3, hg4, i1, mkT_i, mkT_is, a2, ↓tg0, b2, c3]
theorem x_bestShift (hC : clsW xx Fq w) : ∃ w1, clsW xx Fq w1 ∧ frm xx w w1 ∧ pwX so 118 0 [some (.ref xx), some (.int kq), none, none, none, none] [] g w = some (oC (fun _ => 2) (fBShift Fq kq) g w1) := by
  have hg := @hx_g xx w Fq hC
  obtain ⟨t0, t1, t2, t3⟩ := hx_t hC
  have hh := @hasS so g xx w Fq kq hC
  unfold fBShift
  by_cases h0 : isSd Fq.2.1 kq
  · rw [if_pos h0] at hh
    rw [if_pos h0]
    have h02 := h0.2
    obtain ⟨k9, rfl, e4, e5, e6⟩ := un_ex h0.1
    rw [e6]
    obtain ⟨w1, a, b, c⟩ := @x_shift33 so g xx Fq k9 (by omega) 40 0 w none (by omega) hC
    refine ⟨w1, a, b, ?_⟩
    rw [oC_0]
    have hs0 : soo Fq.2.1 k9 0 = zN 1000 := rfl
    rw [hs0, show am (shF Fq.2.1 k9) 0 = 0 from rfl] at c
    simp (disch := omega) only [s_X7_bestShift_0, s_X7_bestShift_1, s_X7_bestShift_4, s_X7_bestShift_7, s_X7_bestShift_8, s_X7_bestShift_11, s_X7_bestShift_14, s_X7_bestShift_24, s_X7_bestShift_25, s_X7_bestShift_26, s_X7_bestShift_29, s_X7_bestShift_30, s_X7_bestShift_31, zN_neg1, nL0, nL1, nL2, nL3, nL4, nL5, nL6, nL7, nL8, nL9, nL10, nL11, nL12, nL13, nL14, nL20, nL21, nL22, nL23, nL25, nL32, nL33, nL39, nL40, nL43, nL44, nL99, nL100, nL120, nL216, nL217, nL218, nL219, nL220, nL221, nL500, nL999, nL1000, nL10000, nL100000, qLtI, qLeI, qEqI, zN_toInt, qM1I, iT_lt, iF_lt, iT_le, iF_le, iT_eq, iF_eq, ↓reduceIte, and_true, true_and, false_and, and_false, not_true_eq_false, not_false_eq_true, qAv, qAn, cond_true, cond_false, Option.bind_some, List.getElem?_cons_succ, List.getElem?_cons_zero, hg, t0, t1, t2, hh]
    exact c
  · rw [if_neg h0] at hh
    rw [if_neg h0]
    refine ⟨w, hC, frm_s, ?_⟩
    show _ = some (oC _ (0 + 1, 0) g w)
    rw [oC_s]
    simp (disch := omega) only [s_X7_bestShift_0, s_X7_bestShift_1, s_X7_bestShift_4, s_X7_bestShift_7, s_X7_bestShift_8, s_X7_bestShift_11, s_X7_bestShift_14, zN_neg1, nL0, nL1, nL2, nL3, nL4, nL5, nL6, nL7, nL8, nL9, nL10, nL11, nL12, nL13, nL14, nL20, nL21, nL22, nL23, nL25, nL32, nL33, nL39, nL40, nL43, nL44, nL99, nL100, nL120, nL216, nL217, nL218, nL219, nL220, nL221, nL500, nL999, nL1000, nL10000, nL100000, qLtI, qLeI, qEqI, zN_toInt, qM1I, iT_lt, iF_lt, iT_le, iF_le, iT_eq, iF_eq, ↓reduceIte, and_true, true_and, false_and, and_false, not_true_eq_false, not_false_eq_true, qAv, qAn, cond_true, cond_false, Option.bind_some, List.getElem?_cons_succ, List.getElem?_cons_zero, hg, t0, t1, t2, hh]; rfl
end QA

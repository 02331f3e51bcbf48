/-! the pure part: the class's town tries an action: done, or left out -/
abbrev tyW (Aq : TA) (pq : Int32) : Prop := okL pq ∧ tN Aq 1 < 10
abbrev tyS (Aq : TA) (pq rq tq uq : Int32) : Prop := okLd pq rq tq uq ∧ tN Aq 0 < 4 ∧ (tL Aq 0).length = 0
abbrev tyH (Aq : TA) (kq pq : Int32) : Prop := isSd Aq kq ∧ okSh pq
abbrev tyX (Aq : TA) (kq pq : Int32) : Prop := (isWd Aq kq ∧ isWd Aq pq) ∧ ¬ un kq = un pq ∧ ¬ un kq ∈ tL Aq 0 ∧ ¬ un pq ∈ tL Aq 0
def aW (Aq : TA) (pq : Int32) : TA := if tyW Aq pq then tWalker Aq pq else Aq
def aS (Aq : TA) (pq rq tq uq : Int32) : TA := if tyS Aq pq rq tq uq then tAdd Aq (un pq) (un rq) (un tq) (un uq) else Aq
def aH (Aq : TA) (kq pq : Int32) : TA := if tyH Aq kq pq then tNum Aq (16 + un kq) (un pq) else Aq
def aX (Aq : TA) (kq pq : Int32) : TA := if tyX Aq kq pq then tSwap Aq (un kq) (un pq) else Aq
def aG (Aq : TA) (kq pq : Int32) : TA := if okSt kq pq then tNum Aq (2 + un kq) (un pq) else Aq
def aT (Aq : TA) (pq : Int32) : TA := if okTk pq then tTicks (un pq) Aq else Aq
section QA
variable {so : Nat → Nat} {g : pwG} {bq : Nat} {w w1 : pwW} {pq kq rq tq uq : Int32} {Aq Bq : TA} {xq : Int64} {sc : Nat → Int32} {Rq : Nat → Nat → Int32} {k9 o9 : Nat}
theorem okStr {pq rq tq uq : Int32} (h : okLd pq rq tq uq) : ∃ a b c d : Nat, pq = zN a ∧ rq = zN b ∧ tq = zN c ∧ uq = zN d ∧ un pq = a ∧ un rq = b ∧ un tq = c ∧ un uq = d ∧ (2 ≤ a ∧ a ≤ 20) ∧ (1 ≤ b ∧ b ≤ 20) ∧ c ≤ 20 ∧ 1 ≤ d ∧ d ≤ 6 := by
  obtain ⟨⟨p1, p2⟩, ⟨r1, r2⟩, ⟨z1, z2⟩, v1, v2⟩ := h
  obtain ⟨ap, rfl, ap2, ap3, ap4⟩ := un_ex (pq := pq) (by omega)
  obtain ⟨ar, rfl, ar2, ar3, ar4⟩ := un_ex (pq := rq) (by omega)
  obtain ⟨at_, rfl, at2, at3, at4⟩ := un_ex (pq := tq) (by omega)
  obtain ⟨au, rfl, au2, au3, au4⟩ := un_ex (pq := uq) (by omega)
  exact ⟨ap, ar, at_, au, rfl, rfl, rfl, rfl, ap4, ar4, at4, au4, by omega, by omega, by omega, by omega, by omega⟩
theorem inv_aW (hI : invT Aq) : invT (aW Aq pq) := by unfold aW; split; exact inv_Walker hI (by rename_i h; exact h.2); exact hI
theorem inv_aS (hI : invT Aq) : invT (aS Aq pq rq tq uq) := by
  unfold aS; split
  · next h =>
    obtain ⟨a, b, c, d, -, -, -, -, e1, e2, e3, e4, f1, f2, f3, f4, f5⟩ := okStr h.1
    rw [e1, e2, e3, e4]
    exact inv_Add hI h.2.1 (List.eq_nil_of_length_eq_zero h.2.2) f1 f2 f3 ⟨f4, f5⟩
  · exact hI
theorem inv_aH (hI : invT Aq) : invT (aH Aq kq pq) := by
  unfold aH; split
  · next h =>
    obtain ⟨⟨h1, h2⟩, h3, h4⟩ := h
    obtain ⟨a, -, a1, a2, a3⟩ := un_ex h1
    obtain ⟨c, -, c1, c2, c3⟩ := un_ex h3
    have h5 := hI.1
    rw [a3, c3]
    exact inv_Num hI (Or.inr (Or.inr ⟨by omega, by omega, by omega⟩))
  · exact hI
theorem inv_aX (hI : invT Aq) : invT (aX Aq kq pq) := by
  unfold aX; split
  · next h =>
    obtain ⟨⟨⟨h1, h2⟩, h3, h4⟩, -⟩ := h
    obtain ⟨a, -, a1, a2, a3⟩ := un_ex h1
    obtain ⟨c, -, c1, c2, c3⟩ := un_ex h3
    rw [a3, c3]
    exact inv_Swap hI (by omega) (by omega)
  · exact hI
theorem inv_aG (hI : invT Aq) : invT (aG Aq kq pq) := by
  unfold aG; split
  · next h =>
    obtain ⟨a, -, a1, a2, a3⟩ := un_ex (pq := kq) (by omega)
    obtain ⟨c, -, c1, c2, c3⟩ := un_ex (pq := pq) (by omega)
    rw [a3, c3]
    exact inv_Num hI (by omega)
  · exact hI
theorem inv_aT (hI : invT Aq) : invT (aT Aq pq) := by unfold aT; split; exact inv_Ticks _ _ hI; exact hI
theorem t_walker (hI : invT Aq) (hT : repT Aq xq sc Rq) : ∃ x1 sc1 R1, repT (aW Aq pq) x1 sc1 R1 ∧ pwX so 63 0 [some (.ref bq), some (.int pq)] [] g (mkT bq xq sc Rq w) = some (.inl (some (.int (if tyW Aq pq then zN 1 else zN 0))), g, (mkT bq x1 sc1 R1 w)) := by
  have h4 := hI.1
  have b1 := @m_isFull so g bq xq sc Rq w
  rw [hT.1.1.2.2.1] at b1
  unfold aW
  by_cases h : tyW Aq pq
  · rw [if_pos h, if_pos h]
    obtain ⟨h1, h2⟩ := h
    obtain ⟨sa, Ra, a1, a2⟩ := @c_addWalker so g bq xq sc Rq w Aq pq hI hT h2
    refine ⟨_, _, _, a1, ?_⟩
    simp (disch := omega) only [s_X5_triesWalker_0, s_X5_triesWalker_1, s_X5_triesWalker_4, s_X5_triesWalker_7, s_X5_triesWalker_8, s_X5_triesWalker_11, s_X5_triesWalker_14, s_X5_triesWalker_15, s_X5_triesWalker_16, s_X5_triesWalker_17, s_X5_triesWalker_18, s_X5_triesWalker_21, s_X5_triesWalker_22, s_X5_triesWalker_23, zN_neg1, nL0, nL1, nL2, nL3, nL4, nL5, nL6, nL7, nL8, nL9, nL10, nL11, nL12, nL13, nL14, nL20, nL21, nL22, nL23, nL25, nL32, nL33, nL39, nL40, nL43, nL44, nL99, nL100, nL120, nL216, nL217, nL218, nL219, nL220, nL221, nL500, nL999, nL1000, nL10000, nL100000, qLtI, qLeI, qEqI, zN_toInt, qM1I, iT_lt, iF_lt, iT_le, iF_le, iT_eq, iF_eq, ↓reduceIte, and_true, true_and, false_and, and_false, not_true_eq_false, not_false_eq_true, qAv, qAn, cond_true, cond_false, Option.bind_some, List.getElem?_cons_succ, List.getElem?_cons_zero, qbi, qb1, qb0, mkT_i, m_isLetter, b1, a2]
  · rw [if_neg h, if_neg h]
    refine ⟨_, _, _, hT, ?_⟩
    by_cases h1 : okL pq
    · have h2 : ¬ tN Aq 1 < 10 := fun hh => h ⟨h1, hh⟩
      simp (disch := omega) only [s_X5_triesWalker_0, s_X5_triesWalker_1, s_X5_triesWalker_4, s_X5_triesWalker_7, s_X5_triesWalker_8, s_X5_triesWalker_11, s_X5_triesWalker_14, s_X5_triesWalker_15, s_X5_triesWalker_16, s_X5_triesWalker_17, s_X5_triesWalker_18, s_X5_triesWalker_21, s_X5_triesWalker_22, s_X5_triesWalker_23, zN_neg1, nL0, nL1, nL2, nL3, nL4, nL5, nL6, nL7, nL8, nL9, nL10, nL11, nL12, nL13, nL14, nL20, nL21, nL22, nL23, nL25, nL32, nL33, nL39, nL40, nL43, nL44, nL99, nL100, nL120, nL216, nL217, nL218, nL219, nL220, nL221, nL500, nL999, nL1000, nL10000, nL100000, qLtI, qLeI, qEqI, zN_toInt, qM1I, iT_lt, iF_lt, iT_le, iF_le, iT_eq, iF_eq, ↓reduceIte, and_true, true_and, false_and, and_false, not_true_eq_false, not_false_eq_true, qAv, qAn, cond_true, cond_false, Option.bind_some, List.getElem?_cons_succ, List.getElem?_cons_zero, qbi, qb1, qb0, mkT_i, m_isLetter, b1]
    · by_cases h0 : 0 ≤ pq.toInt
      · simp (disch := omega) only [s_X5_triesWalker_0, s_X5_triesWalker_1, s_X5_triesWalker_4, s_X5_triesWalker_7, s_X5_triesWalker_8, s_X5_triesWalker_11, s_X5_triesWalker_14, s_X5_triesWalker_15, s_X5_triesWalker_16, s_X5_triesWalker_17, s_X5_triesWalker_18, s_X5_triesWalker_21, s_X5_triesWalker_22, s_X5_triesWalker_23, zN_neg1, nL0, nL1, nL2, nL3, nL4, nL5, nL6, nL7, nL8, nL9, nL10, nL11, nL12, nL13, nL14, nL20, nL21, nL22, nL23, nL25, nL32, nL33, nL39, nL40, nL43, nL44, nL99, nL100, nL120, nL216, nL217, nL218, nL219, nL220, nL221, nL500, nL999, nL1000, nL10000, nL100000, qLtI, qLeI, qEqI, zN_toInt, qM1I, iT_lt, iF_lt, iT_le, iF_le, iT_eq, iF_eq, ↓reduceIte, and_true, true_and, false_and, and_false, not_true_eq_false, not_false_eq_true, qAv, qAn, cond_true, cond_false, Option.bind_some, List.getElem?_cons_succ, List.getElem?_cons_zero, qbi, qb1, qb0, m_isLetter]
      · simp (disch := omega) only [s_X5_triesWalker_0, s_X5_triesWalker_1, s_X5_triesWalker_4, s_X5_triesWalker_7, s_X5_triesWalker_8, s_X5_triesWalker_11, s_X5_triesWalker_14, s_X5_triesWalker_15, s_X5_triesWalker_16, s_X5_triesWalker_17, s_X5_triesWalker_18, s_X5_triesWalker_21, s_X5_triesWalker_22, s_X5_triesWalker_23, zN_neg1, nL0, nL1, nL2, nL3, nL4, nL5, nL6, nL7, nL8, nL9, nL10, nL11, nL12, nL13, nL14, nL20, nL21, nL22, nL23, nL25, nL32, nL33, nL39, nL40, nL43, nL44, nL99, nL100, nL120, nL216, nL217, nL218, nL219, nL220, nL221, nL500, nL999, nL1000, nL10000, nL100000, qLtI, qLeI, qEqI, zN_toInt, qM1I, iT_lt, iF_lt, iT_le, iF_le, iT_eq, iF_eq, ↓reduceIte, and_true, true_and, false_and, and_false, not_true_eq_false, not_false_eq_true, qAv, qAn, cond_true, cond_false, Option.bind_some, List.getElem?_cons_succ, List.getElem?_cons_zero, qbi, qb1, qb0, m_isLetter]
theorem t_street (hI : invT Aq) (hT : repT Aq xq sc Rq) : ∃ x1 sc1 R1, repT (aS Aq pq rq tq uq) x1 sc1 R1 ∧ pwX so 64 0 [some (.ref bq), some (.int pq), some (.int rq), some (.int tq), some (.int uq)] [] g (mkT bq xq sc Rq w) = some (.inl (some (.int (if tyS Aq pq rq tq uq then zN 1 else zN 0))), g, (mkT bq x1 sc1 R1 w)) := by
  have h4 := hI.1
  have b0 := @m_isLaid so g pq rq tq uq (mkT bq xq sc Rq w)
  have b1 := @c_mayGrow so g w bq xq sc Rq Aq hI hT
  unfold aS
  by_cases h : tyS Aq pq rq tq uq
  · rw [if_pos h.1] at b0
    rw [if_pos h.2] at b1
    rw [if_pos h, if_pos h]
    obtain ⟨a, b, c, d, rfl, rfl, rfl, rfl, e1, e2, e3, e4, f1, f2, f3, f4, f5⟩ := okStr h.1
    rw [e1, e2, e3, e4]
    obtain ⟨sa, Ra, a1, a2⟩ := @c_addStreet so g bq xq sc Rq w Aq a b c d hT h.2.1
    refine ⟨_, _, _, a1, ?_⟩
    simp (disch := omega) only [s_X5_triesStreet_0, s_X5_triesStreet_1, s_X5_triesStreet_2, s_X5_triesStreet_3, s_X5_triesStreet_5, s_X5_triesStreet_8, s_X5_triesStreet_11, s_X5_triesStreet_12, s_X5_triesStreet_15, s_X5_triesStreet_18, s_X5_triesStreet_19, s_X5_triesStreet_20, s_X5_triesStreet_21, s_X5_triesStreet_24, s_X5_triesStreet_25, s_X5_triesStreet_26, s_X5_triesStreet_27, s_X5_triesStreet_29, s_X5_triesStreet_32, s_X5_triesStreet_33, s_X5_triesStreet_34, zN_neg1, nL0, nL1, nL2, nL3, nL4, nL5, nL6, nL7, nL8, nL9, nL10, nL11, nL12, nL13, nL14, nL20, nL21, nL22, nL23, nL25, nL32, nL33, nL39, nL40, nL43, nL44, nL99, nL100, nL120, nL216, nL217, nL218, nL219, nL220, nL221, nL500, nL999, nL1000, nL10000, nL100000, ↓reduceIte, qAv, cond_true, Option.bind_some, zN_eq, qT_eq, qF_eq, qbi, qb1, qb0, ↓tg0, mkT_i, mkT_is, b0, b1, a2]
  · rw [if_neg h, if_neg h]
    refine ⟨_, _, _, hT, ?_⟩
    by_cases h1 : okLd pq rq tq uq
    · rw [if_pos h1] at b0
      rw [if_neg (fun hh => h ⟨h1, hh⟩)] at b1
      simp (disch := omega) only [s_X5_triesStreet_0, s_X5_triesStreet_1, s_X5_triesStreet_2, s_X5_triesStreet_3, s_X5_triesStreet_5, s_X5_triesStreet_8, s_X5_triesStreet_11, s_X5_triesStreet_12, s_X5_triesStreet_15, s_X5_triesStreet_18, s_X5_triesStreet_19, s_X5_triesStreet_20, s_X5_triesStreet_21, s_X5_triesStreet_24, s_X5_triesStreet_25, s_X5_triesStreet_26, s_X5_triesStreet_27, s_X5_triesStreet_29, s_X5_triesStreet_32, s_X5_triesStreet_33, s_X5_triesStreet_34, zN_neg1, nL0, nL1, nL2, nL3, nL4, nL5, nL6, nL7, nL8, nL9, nL10, nL11, nL12, nL13, nL14, nL20, nL21, nL22, nL23, nL25, nL32, nL33, nL39, nL40, nL43, nL44, nL99, nL100, nL120, nL216, nL217, nL218, nL219, nL220, nL221, nL500, nL999, nL1000, nL10000, nL100000, ↓reduceIte, qAv, cond_true, Option.bind_some, zN_eq, qT_eq, qF_eq, qbi, qb1, qb0, mkT_i, b0, b1]
    · rw [if_neg h1] at b0
      simp (disch := omega) only [s_X5_triesStreet_0, s_X5_triesStreet_1, s_X5_triesStreet_2, s_X5_triesStreet_3, s_X5_triesStreet_5, s_X5_triesStreet_8, s_X5_triesStreet_11, s_X5_triesStreet_12, s_X5_triesStreet_15, s_X5_triesStreet_18, s_X5_triesStreet_19, s_X5_triesStreet_20, s_X5_triesStreet_21, s_X5_triesStreet_24, s_X5_triesStreet_25, s_X5_triesStreet_26, s_X5_triesStreet_27, s_X5_triesStreet_29, s_X5_triesStreet_32, s_X5_triesStreet_33, s_X5_triesStreet_34, zN_neg1, nL0, nL1, nL2, nL3, nL4, nL5, nL6, nL7, nL8, nL9, nL10, nL11, nL12, nL13, nL14, nL20, nL21, nL22, nL23, nL25, nL32, nL33, nL39, nL40, nL43, nL44, nL99, nL100, nL120, nL216, nL217, nL218, nL219, nL220, nL221, nL500, nL999, nL1000, nL10000, nL100000, ↓reduceIte, qAv, cond_true, Option.bind_some, zN_eq, qT_eq, qF_eq, qbi, qb1, qb0, b0]
theorem t_hasS (hI : invT Aq) (hT : repT Aq xq sc Rq) : pwX so 17 0 [some (.ref (bq + 1)), some (.int kq)] [] g (mkT bq xq sc Rq w) = some (.inl (some (.int (if isSd Aq kq then zN 1 else zN 0))), g, (mkT bq xq sc Rq w)) := by
  have h4 := hI.1
  rw [m_exists, hT.1.1.2.1]
  have h : (zN 0 ≤ kq ∧ kq < zN (tN Aq 0)) ↔ isSd Aq kq := by
    rw [qLeI, qLtI, zN_toInt (by decide), zN_toInt (by omega)]; exact Iff.rfl
  by_cases hh : isSd Aq kq
  · rw [if_pos hh, if_pos (h.mpr hh)]
  · rw [if_neg hh, if_neg (fun h9 => hh (h.mp h9))]
theorem t_hasW (hI : invT Aq) (hT : repT Aq xq sc Rq) : pwX so 40 0 [some (.ref bq), some (.int kq)] [] g (mkT bq xq sc Rq w) = some (.inl (some (.int (if isWd Aq kq then zN 1 else zN 0))), g, (mkT bq xq sc Rq w)) := by
  have h4 := hI.1
  rw [m_hasWalker, hT.1.1.2.2.1]
  have h : (zN 0 ≤ kq ∧ kq < zN (tN Aq 1)) ↔ isWd Aq kq := by
    rw [qLeI, qLtI, zN_toInt (by decide), zN_toInt (by omega)]; exact Iff.rfl
  by_cases hh : isWd Aq kq
  · rw [if_pos hh, if_pos (h.mpr hh)]
  · rw [if_neg hh, if_neg (fun h9 => hh (h.mp h9))]
theorem t_isShift {w : pwW} : pwX so 16 0 [some (.int pq)] [] g w = some (.inl (some (.int (if okSh pq then zN 1 else zN 0))), g, w) := by
  rw [m_isShift]
  have h : (zN 0 ≤ pq ∧ pq ≤ zN 39) ↔ okSh pq := by
    rw [qLeI, qLeI, zN_toInt (by decide), zN_toInt (by decide)]; exact Iff.rfl
  by_cases hh : okSh pq
  · rw [if_pos hh, if_pos (h.mpr hh)]
  · rw [if_neg hh, if_neg (fun h9 => hh (h.mp h9))]
theorem t_shift (hI : invT Aq) (hT : repT Aq xq sc Rq) : ∃ x1 sc1 R1, repT (aH Aq kq pq) x1 sc1 R1 ∧ pwX so 65 0 [some (.ref bq), some (.int kq), some (.int pq)] [] g (mkT bq xq sc Rq w) = some (.inl (some (.int (if tyH Aq kq pq then zN 1 else zN 0))), g, (mkT bq x1 sc1 R1 w)) := by
  have h4 := hI.1
  have b0 := @t_hasS so g bq w kq Aq xq sc Rq hI hT
  have b1 := @t_isShift so g pq (mkT bq xq sc Rq w)
  unfold aH
  by_cases h : tyH Aq kq pq
  · rw [if_pos h.1] at b0
    rw [if_pos h.2] at b1
    rw [if_pos h, if_pos h]
    obtain ⟨⟨h1, h2⟩, h3, h5⟩ := h
    obtain ⟨a, rfl, a1, a2, a3⟩ := un_ex h1
    obtain ⟨c, rfl, c1, c2, c3⟩ := un_ex h3
    rw [a3, c3]
    obtain ⟨R1, d1, d2⟩ := @c_shift so g bq xq sc Rq w Aq a c hI hT (by omega)
    refine ⟨_, _, _, d1, ?_⟩
    simp (disch := omega) only [s_X5_triesShift_0, s_X5_triesShift_1, s_X5_triesShift_4, s_X5_triesShift_5, s_X5_triesShift_8, s_X5_triesShift_11, s_X5_triesShift_12, s_X5_triesShift_15, s_X5_triesShift_18, s_X5_triesShift_19, s_X5_triesShift_20, s_X5_triesShift_21, s_X5_triesShift_24, s_X5_triesShift_25, s_X5_triesShift_26, s_X5_triesShift_29, s_X5_triesShift_30, s_X5_triesShift_31, zN_neg1, nL0, nL1, nL2, nL3, nL4, nL5, nL6, nL7, nL8, nL9, nL10, nL11, nL12, nL13, nL14, nL20, nL21, nL22, nL23, nL25, nL32, nL33, nL39, nL40, nL43, nL44, nL99, nL100, nL120, nL216, nL217, nL218, nL219, nL220, nL221, nL500, nL999, nL1000, nL10000, nL100000, ↓reduceIte, qAv, cond_true, Option.bind_some, zN_eq, qT_eq, qF_eq, qbi, qb1, qb0, ↓tg0, mkT_i, mkT_is, b0, b1, d2]
  · rw [if_neg h, if_neg h]
    refine ⟨_, _, _, hT, ?_⟩
    by_cases h1 : isSd Aq kq
    · rw [if_pos h1] at b0
      rw [if_neg (fun hh => h ⟨h1, hh⟩)] at b1
      simp (disch := omega) only [s_X5_triesShift_0, s_X5_triesShift_1, s_X5_triesShift_4, s_X5_triesShift_5, s_X5_triesShift_8, s_X5_triesShift_11, s_X5_triesShift_12, s_X5_triesShift_15, s_X5_triesShift_18, s_X5_triesShift_19, s_X5_triesShift_20, s_X5_triesShift_21, s_X5_triesShift_24, s_X5_triesShift_25, s_X5_triesShift_26, s_X5_triesShift_29, s_X5_triesShift_30, s_X5_triesShift_31, zN_neg1, nL0, nL1, nL2, nL3, nL4, nL5, nL6, nL7, nL8, nL9, nL10, nL11, nL12, nL13, nL14, nL20, nL21, nL22, nL23, nL25, nL32, nL33, nL39, nL40, nL43, nL44, nL99, nL100, nL120, nL216, nL217, nL218, nL219, nL220, nL221, nL500, nL999, nL1000, nL10000, nL100000, ↓reduceIte, qAv, cond_true, Option.bind_some, zN_eq, qT_eq, qF_eq, qbi, qb1, qb0, ↓tg0, mkT_i, mkT_is, b0, b1]
    · rw [if_neg h1] at b0
      simp (disch := omega) only [s_X5_triesShift_0, s_X5_triesShift_1, s_X5_triesShift_4, s_X5_triesShift_5, s_X5_triesShift_8, s_X5_triesShift_11, s_X5_triesShift_12, s_X5_triesShift_15, s_X5_triesShift_18, s_X5_triesShift_19, s_X5_triesShift_20, s_X5_triesShift_21, s_X5_triesShift_24, s_X5_triesShift_25, s_X5_triesShift_26, s_X5_triesShift_29, s_X5_triesShift_30, s_X5_triesShift_31, zN_neg1, nL0, nL1, nL2, nL3, nL4, nL5, nL6, nL7, nL8, nL9, nL10, nL11, nL12, nL13, nL14, nL20, nL21, nL22, nL23, nL25, nL32, nL33, nL39, nL40, nL43, nL44, nL99, nL100, nL120, nL216, nL217, nL218, nL219, nL220, nL221, nL500, nL999, nL1000, nL10000, nL100000, ↓reduceIte, qAv, cond_true, Option.bind_some, zN_eq, qT_eq, qF_eq, qbi, qb1, qb0, ↓tg0, mkT_i, mkT_is, b0]
theorem t_setg (hI : invT Aq) (hT : repT Aq xq sc Rq) : ∃ x1 sc1 R1, repT (aG Aq kq pq) x1 sc1 R1 ∧ pwX so 67 0 [some (.ref bq), some (.int kq), some (.int pq)] [] g (mkT bq xq sc Rq w) = some (.inl (some (.int (if okSt kq pq then zN 1 else zN 0))), g, (mkT bq x1 sc1 R1 w)) := by
  have b0 := @m_isSet so g pq kq (mkT bq xq sc Rq w)
  unfold aG
  by_cases h : okSt kq pq
  · rw [if_pos h] at b0
    rw [if_pos h, if_pos h]
    obtain ⟨a, rfl, a1, a2, a3⟩ := un_ex (pq := kq) (by omega)
    obtain ⟨c, rfl, c1, c2, c3⟩ := un_ex (pq := pq) (by omega)
    rw [a3, c3]
    obtain ⟨s1, d1, d2⟩ := @c_set so g bq w Aq xq sc Rq a c (by omega) hI hT
    refine ⟨_, _, _, d1, ?_⟩
    simp (disch := omega) only [s_X5_triesSetting_0, s_X5_triesSetting_1, s_X5_triesSetting_2, s_X5_triesSetting_5, s_X5_triesSetting_8, s_X5_triesSetting_9, s_X5_triesSetting_10, s_X5_triesSetting_11, s_X5_triesSetting_12, s_X5_triesSetting_13, s_X5_triesSetting_16, s_X5_triesSetting_17, s_X5_triesSetting_18, zN_neg1, nL0, nL1, nL2, nL3, nL4, nL5, nL6, nL7, nL8, nL9, nL10, nL11, nL12, nL13, nL14, nL20, nL21, nL22, nL23, nL25, nL32, nL33, nL39, nL40, nL43, nL44, nL99, nL100, nL120, nL216, nL217, nL218, nL219, nL220, nL221, nL500, nL999, nL1000, nL10000, nL100000, ↓reduceIte, qAv, cond_true, Option.bind_some, zN_eq, qT_eq, qF_eq, qbi, qb1, qb0, mkT_i, b0, d2]
  · rw [if_neg h] at b0
    rw [if_neg h, if_neg h]
    refine ⟨_, _, _, hT, ?_⟩
    simp (disch := omega) only [s_X5_triesSetting_0, s_X5_triesSetting_1, s_X5_triesSetting_2, s_X5_triesSetting_5, s_X5_triesSetting_8, s_X5_triesSetting_9, s_X5_triesSetting_10, s_X5_triesSetting_11, s_X5_triesSetting_12, s_X5_triesSetting_13, s_X5_triesSetting_16, s_X5_triesSetting_17, s_X5_triesSetting_18, zN_neg1, nL0, nL1, nL2, nL3, nL4, nL5, nL6, nL7, nL8, nL9, nL10, nL11, nL12, nL13, nL14, nL20, nL21, nL22, nL23, nL25, nL32, nL33, nL39, nL40, nL43, nL44, nL99, nL100, nL120, nL216, nL217, nL218, nL219, nL220, nL221, nL500, nL999, nL1000, nL10000, nL100000, ↓reduceIte, qAv, cond_true, Option.bind_some, zN_eq, qT_eq, qF_eq, qbi, qb1, qb0, b0]
theorem t_exch (hI : invT Aq) (hT : repT Aq xq sc Rq) : ∃ x1 sc1 R1, repT (aX Aq kq pq) x1 sc1 R1 ∧ pwX so 66 0 [some (.ref bq), some (.int kq), some (.int pq)] [] g (mkT bq xq sc Rq w) = some (.inl (some (.int (if tyX Aq kq pq then zN 1 else zN 0))), g, (mkT bq x1 sc1 R1 w)) := by
  have h4 := hI.1
  have b0 := @t_hasW so g bq w kq Aq xq sc Rq hI hT
  have b1 := @t_hasW so g bq w pq Aq xq sc Rq hI hT
  unfold aX
  by_cases h0 : isWd Aq kq
  · rw [if_pos h0] at b0
    by_cases h1 : isWd Aq pq
    · rw [if_pos h1] at b1
      have h02 := h0.2
      have h12 := h1.2
      obtain ⟨k8, rfl, e4, e5, e6⟩ := un_ex h0.1
      obtain ⟨p9, rfl, e7, e8, e9⟩ := un_ex h1.1
      have a1 := @c_hasCome so g bq xq sc Rq w Aq k8 hI hT (by omega)
      have a2 := @c_hasCome so g bq xq sc Rq w Aq p9 hI hT (by omega)
      by_cases h2 : k8 = p9
      · rw [if_neg (fun h => h.2.1 (by rw [e6, e9, h2])), if_neg (fun h => h.2.1 (by rw [e6, e9, h2]))]
        refine ⟨_, _, _, hT, ?_⟩
        subst h2
        simp (disch := omega) only [s_X5_triesExchange_0, s_X5_triesExchange_1, s_X5_triesExchange_2, s_X5_triesExchange_5, s_X5_triesExchange_8, s_X5_triesExchange_9, s_X5_triesExchange_10, s_X5_triesExchange_13, s_X5_triesExchange_16, s_X5_triesExchange_17, s_X5_triesExchange_18, s_X5_triesExchange_21, s_X5_triesExchange_22, s_X5_triesExchange_23, s_X5_triesExchange_26, s_X5_triesExchange_29, s_X5_triesExchange_30, s_X5_triesExchange_31, s_X5_triesExchange_34, s_X5_triesExchange_37, s_X5_triesExchange_38, s_X5_triesExchange_39, s_X5_triesExchange_40, s_X5_triesExchange_41, s_X5_triesExchange_42, s_X5_triesExchange_45, s_X5_triesExchange_46, s_X5_triesExchange_47, s_X5_triesExchange_50, s_X5_triesExchange_53, s_X5_triesExchange_54, zN_neg1, nL0, nL1, nL2, nL3, nL4, nL5, nL6, nL7, nL8, nL9, nL10, nL11, nL12, nL13, nL14, nL20, nL21, nL22, nL23, nL25, nL32, nL33, nL39, nL40, nL43, nL44, nL99, nL100, nL120, nL216, nL217, nL218, nL219, nL220, nL221, nL500, nL999, nL1000, nL10000, nL100000, ↓reduceIte, qAv, cond_true, Option.bind_some, zN_eq, qT_eq, qF_eq, qbi, qb1, qb0, mkT_i, b0, b1]
      · by_cases h3 : k8 ∈ tL Aq 0
        · rw [if_pos h3] at a1
          rw [if_neg (fun h => h.2.2.1 (by rw [e6]; exact h3)), if_neg (fun h => h.2.2.1 (by rw [e6]; exact h3))]
          refine ⟨_, _, _, hT, ?_⟩
          simp (disch := omega) only [s_X5_triesExchange_0, s_X5_triesExchange_1, s_X5_triesExchange_2, s_X5_triesExchange_5, s_X5_triesExchange_8, s_X5_triesExchange_9, s_X5_triesExchange_10, s_X5_triesExchange_13, s_X5_triesExchange_16, s_X5_triesExchange_17, s_X5_triesExchange_18, s_X5_triesExchange_21, s_X5_triesExchange_22, s_X5_triesExchange_23, s_X5_triesExchange_26, s_X5_triesExchange_29, s_X5_triesExchange_30, s_X5_triesExchange_31, s_X5_triesExchange_34, s_X5_triesExchange_37, s_X5_triesExchange_38, s_X5_triesExchange_39, s_X5_triesExchange_40, s_X5_triesExchange_41, s_X5_triesExchange_42, s_X5_triesExchange_45, s_X5_triesExchange_46, s_X5_triesExchange_47, s_X5_triesExchange_50, s_X5_triesExchange_53, s_X5_triesExchange_54, zN_neg1, nL0, nL1, nL2, nL3, nL4, nL5, nL6, nL7, nL8, nL9, nL10, nL11, nL12, nL13, nL14, nL20, nL21, nL22, nL23, nL25, nL32, nL33, nL39, nL40, nL43, nL44, nL99, nL100, nL120, nL216, nL217, nL218, nL219, nL220, nL221, nL500, nL999, nL1000, nL10000, nL100000, ↓reduceIte, qAv, cond_true, Option.bind_some, zN_eq, qT_eq, qF_eq, qbi, qb1, qb0, mkT_i, b0, b1, a1]
        · rw [if_neg h3] at a1
          by_cases h5 : p9 ∈ tL Aq 0
          · rw [if_pos h5] at a2
            rw [if_neg (fun h => h.2.2.2 (by rw [e9]; exact h5)), if_neg (fun h => h.2.2.2 (by rw [e9]; exact h5))]
            refine ⟨_, _, _, hT, ?_⟩
            simp (disch := omega) only [s_X5_triesExchange_0, s_X5_triesExchange_1, s_X5_triesExchange_2, s_X5_triesExchange_5, s_X5_triesExchange_8, s_X5_triesExchange_9, s_X5_triesExchange_10, s_X5_triesExchange_13, s_X5_triesExchange_16, s_X5_triesExchange_17, s_X5_triesExchange_18, s_X5_triesExchange_21, s_X5_triesExchange_22, s_X5_triesExchange_23, s_X5_triesExchange_26, s_X5_triesExchange_29, s_X5_triesExchange_30, s_X5_triesExchange_31, s_X5_triesExchange_34, s_X5_triesExchange_37, s_X5_triesExchange_38, s_X5_triesExchange_39, s_X5_triesExchange_40, s_X5_triesExchange_41, s_X5_triesExchange_42, s_X5_triesExchange_45, s_X5_triesExchange_46, s_X5_triesExchange_47, s_X5_triesExchange_50, s_X5_triesExchange_53, s_X5_triesExchange_54, zN_neg1, nL0, nL1, nL2, nL3, nL4, nL5, nL6, nL7, nL8, nL9, nL10, nL11, nL12, nL13, nL14, nL20, nL21, nL22, nL23, nL25, nL32, nL33, nL39, nL40, nL43, nL44, nL99, nL100, nL120, nL216, nL217, nL218, nL219, nL220, nL221, nL500, nL999, nL1000, nL10000, nL100000, ↓reduceIte, qAv, cond_true, Option.bind_some, zN_eq, qT_eq, qF_eq, qbi, qb1, qb0, mkT_i, b0, b1, a1, a2]
          · rw [if_neg h5] at a2
            have hy : tyX Aq (zN k8) (zN p9) := ⟨⟨h0, h1⟩, by rw [e6, e9]; exact h2, by rw [e6]; exact h3, by rw [e9]; exact h5⟩
            rw [if_pos hy, if_pos hy, e6, e9]
            obtain ⟨R1, d1, d2⟩ := @c_swapP so g bq xq sc Rq w Aq k8 p9 hI hT (by omega) (by omega)
            have d3 := @c_placeOf so g bq xq sc Rq w Aq k8 hI hT (by omega)
            have d4 := @c_placeOf so g bq xq sc Rq w Aq p9 hI hT (by omega)
            refine ⟨_, _, _, d1, ?_⟩
            simp (disch := omega) only [s_X5_triesExchange_0, s_X5_triesExchange_1, s_X5_triesExchange_2, s_X5_triesExchange_5, s_X5_triesExchange_8, s_X5_triesExchange_9, s_X5_triesExchange_10, s_X5_triesExchange_13, s_X5_triesExchange_16, s_X5_triesExchange_17, s_X5_triesExchange_18, s_X5_triesExchange_21, s_X5_triesExchange_22, s_X5_triesExchange_23, s_X5_triesExchange_26, s_X5_triesExchange_29, s_X5_triesExchange_30, s_X5_triesExchange_31, s_X5_triesExchange_34, s_X5_triesExchange_37, s_X5_triesExchange_38, s_X5_triesExchange_39, s_X5_triesExchange_40, s_X5_triesExchange_41, s_X5_triesExchange_42, s_X5_triesExchange_45, s_X5_triesExchange_46, s_X5_triesExchange_47, s_X5_triesExchange_50, s_X5_triesExchange_53, s_X5_triesExchange_54, zN_neg1, nL0, nL1, nL2, nL3, nL4, nL5, nL6, nL7, nL8, nL9, nL10, nL11, nL12, nL13, nL14, nL20, nL21, nL22, nL23, nL25, nL32, nL33, nL39, nL40, nL43, nL44, nL99, nL100, nL120, nL216, nL217, nL218, nL219, nL220, nL221, nL500, nL999, nL1000, nL10000, nL100000, ↓reduceIte, qAv, qAn, cond_true, Option.bind_some, zN_eq, qT_eq, qF_eq, qbi, qb1, qb0, mkT_i, b0, b1, a1, a2, d2, d3, d4]
    · rw [if_neg h1] at b1
      rw [if_neg (fun h => h1 h.1.2), if_neg (fun h => h1 h.1.2)]
      refine ⟨_, _, _, hT, ?_⟩
      simp (disch := omega) only [s_X5_triesExchange_0, s_X5_triesExchange_1, s_X5_triesExchange_2, s_X5_triesExchange_5, s_X5_triesExchange_8, s_X5_triesExchange_9, s_X5_triesExchange_10, s_X5_triesExchange_13, s_X5_triesExchange_16, s_X5_triesExchange_17, s_X5_triesExchange_18, s_X5_triesExchange_21, s_X5_triesExchange_22, s_X5_triesExchange_23, s_X5_triesExchange_26, s_X5_triesExchange_29, s_X5_triesExchange_30, s_X5_triesExchange_31, s_X5_triesExchange_34, s_X5_triesExchange_37, s_X5_triesExchange_38, s_X5_triesExchange_39, s_X5_triesExchange_40, s_X5_triesExchange_41, s_X5_triesExchange_42, s_X5_triesExchange_45, s_X5_triesExchange_46, s_X5_triesExchange_47, s_X5_triesExchange_50, s_X5_triesExchange_53, s_X5_triesExchange_54, zN_neg1, nL0, nL1, nL2, nL3, nL4, nL5, nL6, nL7, nL8, nL9, nL10, nL11, nL12, nL13, nL14, nL20, nL21, nL22, nL23, nL25, nL32, nL33, nL39, nL40, nL43, nL44, nL99, nL100, nL120, nL216, nL217, nL218, nL219, nL220, nL221, nL500, nL999, nL1000, nL10000, nL100000, ↓reduceIte, qAv, cond_true, Option.bind_some, zN_eq, qT_eq, qF_eq, qbi, qb1, qb0, mkT_i, b0, b1]
  · rw [if_neg h0] at b0
    rw [if_neg (fun h => h0 h.1.1), if_neg (fun h => h0 h.1.1)]
    refine ⟨_, _, _, hT, ?_⟩
    simp (disch := omega) only [s_X5_triesExchange_0, s_X5_triesExchange_1, s_X5_triesExchange_2, s_X5_triesExchange_5, s_X5_triesExchange_8, s_X5_triesExchange_9, s_X5_triesExchange_10, s_X5_triesExchange_13, s_X5_triesExchange_16, s_X5_triesExchange_17, s_X5_triesExchange_18, s_X5_triesExchange_21, s_X5_triesExchange_22, s_X5_triesExchange_23, s_X5_triesExchange_26, s_X5_triesExchange_29, s_X5_triesExchange_30, s_X5_triesExchange_31, s_X5_triesExchange_34, s_X5_triesExchange_37, s_X5_triesExchange_38, s_X5_triesExchange_39, s_X5_triesExchange_40, s_X5_triesExchange_41, s_X5_triesExchange_42, s_X5_triesExchange_45, s_X5_triesExchange_46, s_X5_triesExchange_47, s_X5_triesExchange_50, s_X5_triesExchange_53, s_X5_triesExchange_54, zN_neg1, nL0, nL1, nL2, nL3, nL4, nL5, nL6, nL7, nL8, nL9, nL10, nL11, nL12, nL13, nL14, nL20, nL21, nL22, nL23, nL25, nL32, nL33, nL39, nL40, nL43, nL44, nL99, nL100, nL120, nL216, nL217, nL218, nL219, nL220, nL221, nL500, nL999, nL1000, nL10000, nL100000, ↓reduceIte, qAv, cond_true, Option.bind_some, zN_eq, qT_eq, qF_eq, qbi, qb1, qb0, mkT_i, b0]
end QA

/-! the pure part: the class's questions, called from outside -/
def frm (xx : Nat) (w w1 : pwW) : Prop := ∀ aq, aq < xx ∨ xx + 280 ≤ aq → w1 aq = w aq
def fAbout (Fq : FS) (pq : Int32) : Nat × Int32 := if 0 ≤ pq.toInt ∧ pq.toInt ≤ 12 then (0, aTold Fq.2.1 (un pq)) else (1, 0)
def isW (Aq : TA) (kq : Int32) : Prop := 0 ≤ kq.toInt ∧ kq.toInt < (tN Aq 1 : Int)
def isS (Aq : TA) (sq : Int32) : Prop := 0 ≤ sq.toInt ∧ sq.toInt < (tN Aq 0 : Int)
abbrev isWd (Aq : TA) (kq : Int32) : Prop := 0 ≤ kq.toInt ∧ kq.toInt < (tN Aq 1 : Int)
abbrev isSd (Aq : TA) (sq : Int32) : Prop := 0 ≤ sq.toInt ∧ sq.toInt < (tN Aq 0 : Int)
def fWalkerOf (Fq : FS) (kq pq : Int32) : Nat × Int32 := if isWd Fq.2.1 kq then (if 0 ≤ pq.toInt ∧ pq.toInt ≤ 5 then (0, aWk Fq.2.1 (un kq) (un pq)) else (2, 0)) else (1, 0)
def fStreetOf (Fq : FS) (kq pq : Int32) : Nat × Int32 := if isSd Fq.2.1 kq then (if 0 ≤ pq.toInt ∧ pq.toInt ≤ 9 then (0, aSt Fq.2.1 (un kq) (un pq)) else (2, 0)) else (1, 0)
def fCell (Fq : FS) (kq pq : Int32) : Nat × Int32 := if isSd Fq.2.1 kq ∧ 0 ≤ pq.toInt ∧ pq.toInt < (tN Fq.2.1 (4 + un kq) : Int) then (0, oV (cO (tC Fq.2.1 (un kq)) (un pq))) else (1, 0)
def fFile (Fq : FS) (kq : Int32) : Nat × Int32 := if isWd Fq.2.1 kq then (0, zN (wF Fq.2.1 (un kq))) else (1, 0)
def fRead (Fq : FS) (kq pq : Int32) : Nat × Int32 := if isSd Fq.2.1 kq then (if 0 ≤ pq.toInt then (0, aRead Fq.2.1 (un kq) (un pq)) else (2, 0)) else (1, 0)
section QA
variable {so : Nat → Nat} {g : pwG} {xx : Nat} {w : pwW} {Fq : FS} {pq kq : Int32}
theorem z_le {aq : Nat} {yq : Int32} (h : aq < 2147483648) : (zN aq ≤ yq) = ((aq : Int) ≤ yq.toInt) := by rw [qLeI, zN_toInt h]
/-- has walker, has place, street there: as the tests of the class answer -/
theorem hasW (hC : clsW xx Fq w) : pwX so 40 0 [some (.ref (xx + 4)), some (.int kq)] [] g w = some (.inl (some (.int (if isWd Fq.2.1 kq then zN 1 else zN 0))), g, w) := by
  obtain ⟨-, ⟨hI, xq, sc, Rq, hT, hw⟩, -⟩ := hC
  have h4 := hI.1
  have a := @m_hasWalker so g (xx + 4) xq sc Rq w kq
  rw [← hw, hT.1.1.2.2.1] at a
  rw [a]
  have h : (zN 0 ≤ kq ∧ kq < zN (tN Fq.2.1 1)) ↔ isWd Fq.2.1 kq := by
    rw [qLeI, qLtI, zN_toInt (by decide), zN_toInt (by omega)]; exact Iff.rfl
  by_cases hh : isWd Fq.2.1 kq
  · rw [if_pos hh, if_pos (h.mpr hh)]
  · rw [if_neg hh, if_neg (fun h9 => hh (h.mp h9))]
theorem hasP (hC : clsW xx Fq w) : pwX so 41 0 [some (.ref (xx + 4)), some (.int kq)] [] g w = some (.inl (some (.int (if isWd Fq.2.1 kq then zN 1 else zN 0))), g, w) := by
  obtain ⟨-, ⟨hI, xq, sc, Rq, hT, hw⟩, -⟩ := hC
  have h4 := hI.1
  have a := @m_hasPlace so g (xx + 4) xq sc Rq w kq
  rw [← hw, hT.1.1.2.2.1] at a
  rw [a]
  have h : (zN 0 ≤ kq ∧ kq < zN (tN Fq.2.1 1)) ↔ isWd Fq.2.1 kq := by
    rw [qLeI, qLtI, zN_toInt (by decide), zN_toInt (by omega)]; exact Iff.rfl
  by_cases hh : isWd Fq.2.1 kq
  · rw [if_pos hh, if_pos (h.mpr hh)]
  · rw [if_neg hh, if_neg (fun h9 => hh (h.mp h9))]
theorem hasS (hC : clsW xx Fq w) : pwX so 17 0 [some (.ref (xx + 5)), some (.int kq)] [] g w = some (.inl (some (.int (if isSd Fq.2.1 kq then zN 1 else zN 0))), g, w) := by
  obtain ⟨-, ⟨hI, xq, sc, Rq, hT, hw⟩, -⟩ := hC
  have h4 := hI.1
  have a := @m_exists so g (xx + 4) xq sc Rq w kq
  rw [← hw, hT.1.1.2.1] at a
  rw [a]
  have h : (zN 0 ≤ kq ∧ kq < zN (tN Fq.2.1 0)) ↔ isSd Fq.2.1 kq := by
    rw [qLeI, qLtI, zN_toInt (by decide), zN_toInt (by omega)]; exact Iff.rfl
  by_cases hh : isSd Fq.2.1 kq
  · rw [if_pos hh, if_pos (h.mpr hh)]
  · rw [if_neg hh, if_neg (fun h9 => hh (h.mp h9))]
/-- the fields of the class and its town -/
theorem hx_g (hC : clsW xx Fq w) {jq : Nat} : pwGet w xx 6 jq = ([.ref (xx + 1), .ref (xx + 4), .ref (xx + 19), .ref (xx + 34), .ref (xx + 36), .ref (xx + 248), .ref (xx + 264)] : List Value)[jq]? := cg hC.1
theorem hx_t (hC : clsW xx Fq w) : pwGet w (xx + 4) 4 0 = some (.ref (xx + 5)) ∧ pwIsC w (xx + 4) 4 = true ∧ pwIsC w (xx + 5) 3 = true ∧ pwIsC w (xx + 34) 1 = true := by
  obtain ⟨-, ⟨hI, xq, sc, Rq, hT, hw⟩, -, ⟨h4, -⟩, -⟩ := hC
  refine ⟨by rw [hw, mkT_g]; rfl, by rw [hw]; exact mkT_i, by rw [hw]; exact mkT_is, ci_ h4⟩
theorem frm_s : frm xx w w := fun _ _ => rfl
theorem x_about (hC : clsW xx Fq w) : ∃ w1, clsW xx Fq w1 ∧ frm xx w w1 ∧ pwX so 100 0 [some (.ref xx), some (.int pq)] [] g w = some (oC (fun _ => 0) (fAbout Fq pq) g w1) := by
  have hg := @hx_g xx w Fq hC
  obtain ⟨t0, t1, t2, t3⟩ := hx_t hC
  unfold fAbout
  by_cases h1 : 0 ≤ pq.toInt ∧ pq.toInt ≤ 12
  · rw [if_pos h1]
    obtain ⟨nq, rfl, e1, e2, e3⟩ := un_ex h1.1
    have hC2 := hC
    obtain ⟨-, ⟨hI, xq, sc, Rq, hT, hw⟩, -, ⟨h4, fr, h5⟩, -⟩ := hC2
    obtain ⟨f1, a⟩ := @c_told so g (xx + 4) (xx + 34) (xx + 35) xq sc Rq w Fq.2.1 fr nq hI hT (by omega) (by omega) (by omega) (by rw [cg h4]; rfl) t3 (by omega)
    have hm : mkA (xx + 35) 10 fr w = w := by
      funext aq
      by_cases hx : aq = xx + 35
      · rw [hx, mkA_s, h5]
      · rw [mkA_o hx]
    rw [hm, ← hw] at a
    have hw2 : mkA (xx + 35) 10 f1 w = mkT (xx + 4) xq sc Rq (mkA (xx + 35) 10 f1 w) := mkT_congr (fun aq _ _ => mkA_o (by omega)) hw
    rw [← hw2] at a
    refine ⟨mkA (xx + 35) 10 f1 w, cls_rise hC, fun aq ha => mkA_o (by omega), ?_⟩
    rw [oC_0, e3]
    simp (disch := omega) only [s_X7_about_0, s_X7_about_1, s_X7_about_4, s_X7_about_5, s_X7_about_7, s_X7_about_10, s_X7_about_20, s_X7_about_21, s_X7_about_24, s_X7_about_25, s_X7_about_28, s_X7_about_29, s_X7_about_32, zN_neg1, nL0, nL1, nL2, nL3, nL4, nL5, nL6, nL7, nL8, nL9, nL10, nL11, nL12, nL13, nL14, nL20, nL21, nL22, nL23, nL25, nL32, nL33, nL39, nL40, nL43, nL44, nL99, nL100, nL120, nL216, nL217, nL218, nL219, nL220, nL221, nL500, nL999, nL1000, nL10000, nL100000, qLtI, qLeI, qEqI, zN_toInt, qM1I, iT_lt, iF_lt, iT_le, iF_le, iT_eq, iF_eq, ↓reduceIte, and_true, true_and, false_and, and_false, not_true_eq_false, not_false_eq_true, qAv, qAn, cond_true, cond_false, Option.bind_some, List.getElem?_cons_succ, List.getElem?_cons_zero, hg, t3, a]
  · rw [if_neg h1]
    refine ⟨w, hC, frm_s, ?_⟩
    rw [show (1 : Nat) = 0 + 1 from rfl, oC_s]
    by_cases h2 : 0 ≤ pq.toInt
    · simp (disch := omega) only [s_X7_about_0, s_X7_about_1, s_X7_about_4, s_X7_about_5, s_X7_about_7, s_X7_about_10, s_X7_about_20, s_X7_about_21, s_X7_about_24, s_X7_about_25, s_X7_about_28, s_X7_about_29, s_X7_about_32, zN_neg1, nL0, nL1, nL2, nL3, nL4, nL5, nL6, nL7, nL8, nL9, nL10, nL11, nL12, nL13, nL14, nL20, nL21, nL22, nL23, nL25, nL32, nL33, nL39, nL40, nL43, nL44, nL99, nL100, nL120, nL216, nL217, nL218, nL219, nL220, nL221, nL500, nL999, nL1000, nL10000, nL100000, qLtI, qLeI, qEqI, zN_toInt, qM1I, iT_lt, iF_lt, iT_le, iF_le, iT_eq, iF_eq, ↓reduceIte, and_true, true_and, false_and, and_false, not_true_eq_false, not_false_eq_true, qAv, qAn, cond_true, cond_false, Option.bind_some, List.getElem?_cons_succ, List.getElem?_cons_zero]; rfl
    · simp (disch := omega) only [s_X7_about_0, s_X7_about_1, s_X7_about_4, s_X7_about_5, s_X7_about_7, s_X7_about_10, s_X7_about_20, s_X7_about_21, s_X7_about_24, s_X7_about_25, s_X7_about_28, s_X7_about_29, s_X7_about_32, zN_neg1, nL0, nL1, nL2, nL3, nL4, nL5, nL6, nL7, nL8, nL9, nL10, nL11, nL12, nL13, nL14, nL20, nL21, nL22, nL23, nL25, nL32, nL33, nL39, nL40, nL43, nL44, nL99, nL100, nL120, nL216, nL217, nL218, nL219, nL220, nL221, nL500, nL999, nL1000, nL10000, nL100000, qLtI, qLeI, qEqI, zN_toInt, qM1I, iT_lt, iF_lt, iT_le, iF_le, iT_eq, iF_eq, ↓reduceIte, and_true, true_and, false_and, and_false, not_true_eq_false, not_false_eq_true, qAv, qAn, cond_true, cond_false, Option.bind_some, List.getElem?_cons_succ, List.getElem?_cons_zero]; rfl
theorem x_walkerOf (hC : clsW xx Fq w) : ∃ w1, clsW xx Fq w1 ∧ frm xx w w1 ∧ pwX so 101 0 [some (.ref xx), some (.int kq), some (.int pq)] [] g w = some (oC (fun jq => if jq = 1 then 2 else 0) (fWalkerOf Fq kq pq) g w1) := by
  have hg := @hx_g xx w Fq hC
  obtain ⟨t0, t1, t2, t3⟩ := hx_t hC
  have hh := @hasW so g xx w Fq kq hC
  refine ⟨w, hC, frm_s, ?_⟩
  unfold fWalkerOf
  by_cases h0 : isWd Fq.2.1 kq
  · rw [if_pos h0] at hh
    rw [if_pos h0]
    by_cases h1 : 0 ≤ pq.toInt ∧ pq.toInt ≤ 5
    · rw [if_pos h1]
      obtain ⟨nq, rfl, e1, e2, e3⟩ := un_ex h1.1
      obtain ⟨k9, rfl, e4, e5, e6⟩ := un_ex h0.1
      obtain ⟨-, ⟨hI, xq, sc, Rq, hT, hw⟩, -⟩ := hC
      have h02 := h0.2
      have a := @c_numW so g (xx + 4) xq sc Rq w Fq.2.1 k9 nq hI hT (by omega) (by omega)
      rw [← hw] at a
      rw [oC_0, e3, e6]
      simp (disch := omega) only [s_X7_walkerOf_0, s_X7_walkerOf_1, s_X7_walkerOf_4, s_X7_walkerOf_5, s_X7_walkerOf_8, s_X7_walkerOf_11, s_X7_walkerOf_21, s_X7_walkerOf_22, s_X7_walkerOf_25, s_X7_walkerOf_26, s_X7_walkerOf_27, s_X7_walkerOf_30, s_X7_walkerOf_40, s_X7_walkerOf_41, s_X7_walkerOf_44, s_X7_walkerOf_45, s_X7_walkerOf_46, s_X7_walkerOf_49, zN_neg1, nL0, nL1, nL2, nL3, nL4, nL5, nL6, nL7, nL8, nL9, nL10, nL11, nL12, nL13, nL14, nL20, nL21, nL22, nL23, nL25, nL32, nL33, nL39, nL40, nL43, nL44, nL99, nL100, nL120, nL216, nL217, nL218, nL219, nL220, nL221, nL500, nL999, nL1000, nL10000, nL100000, qLtI, qLeI, qEqI, zN_toInt, qM1I, iT_lt, iF_lt, iT_le, iF_le, iT_eq, iF_eq, ↓reduceIte, and_true, true_and, false_and, and_false, not_true_eq_false, not_false_eq_true, qAv, qAn, cond_true, cond_false, Option.bind_some, List.getElem?_cons_succ, List.getElem?_cons_zero, hg, t1, hh, a]
    · rw [if_neg h1, show (2 : Nat) = 1 + 1 from rfl, oC_s]
      by_cases h2 : 0 ≤ pq.toInt
      · simp (disch := omega) only [s_X7_walkerOf_0, s_X7_walkerOf_1, s_X7_walkerOf_4, s_X7_walkerOf_5, s_X7_walkerOf_8, s_X7_walkerOf_11, s_X7_walkerOf_21, s_X7_walkerOf_22, s_X7_walkerOf_25, s_X7_walkerOf_26, s_X7_walkerOf_27, s_X7_walkerOf_30, s_X7_walkerOf_40, s_X7_walkerOf_41, s_X7_walkerOf_44, s_X7_walkerOf_45, s_X7_walkerOf_46, s_X7_walkerOf_49, zN_neg1, nL0, nL1, nL2, nL3, nL4, nL5, nL6, nL7, nL8, nL9, nL10, nL11, nL12, nL13, nL14, nL20, nL21, nL22, nL23, nL25, nL32, nL33, nL39, nL40, nL43, nL44, nL99, nL100, nL120, nL216, nL217, nL218, nL219, nL220, nL221, nL500, nL999, nL1000, nL10000, nL100000, qLtI, qLeI, qEqI, zN_toInt, qM1I, iT_lt, iF_lt, iT_le, iF_le, iT_eq, iF_eq, ↓reduceIte, and_true, true_and, false_and, and_false, not_true_eq_false, not_false_eq_true, qAv, qAn, cond_true, cond_false, Option.bind_some, List.getElem?_cons_succ, List.getElem?_cons_zero, hg, t1, hh]; rfl
      · simp (disch := omega) only [s_X7_walkerOf_0, s_X7_walkerOf_1, s_X7_walkerOf_4, s_X7_walkerOf_5, s_X7_walkerOf_8, s_X7_walkerOf_11, s_X7_walkerOf_21, s_X7_walkerOf_22, s_X7_walkerOf_25, s_X7_walkerOf_26, s_X7_walkerOf_27, s_X7_walkerOf_30, s_X7_walkerOf_40, s_X7_walkerOf_41, s_X7_walkerOf_44, s_X7_walkerOf_45, s_X7_walkerOf_46, s_X7_walkerOf_49, zN_neg1, nL0, nL1, nL2, nL3, nL4, nL5, nL6, nL7, nL8, nL9, nL10, nL11, nL12, nL13, nL14, nL20, nL21, nL22, nL23, nL25, nL32, nL33, nL39, nL40, nL43, nL44, nL99, nL100, nL120, nL216, nL217, nL218, nL219, nL220, nL221, nL500, nL999, nL1000, nL10000, nL100000, qLtI, qLeI, qEqI, zN_toInt, qM1I, iT_lt, iF_lt, iT_le, iF_le, iT_eq, iF_eq, ↓reduceIte, and_true, true_and, false_and, and_false, not_true_eq_false, not_false_eq_true, qAv, qAn, cond_true, cond_false, Option.bind_some, List.getElem?_cons_succ, List.getElem?_cons_zero, hg, t1, hh]; rfl
  · rw [if_neg h0] at hh
    rw [if_neg h0, show (1 : Nat) = 0 + 1 from rfl, oC_s]
    simp (disch := omega) only [s_X7_walkerOf_0, s_X7_walkerOf_1, s_X7_walkerOf_4, s_X7_walkerOf_5, s_X7_walkerOf_8, s_X7_walkerOf_11, s_X7_walkerOf_21, s_X7_walkerOf_22, s_X7_walkerOf_25, s_X7_walkerOf_26, s_X7_walkerOf_27, s_X7_walkerOf_30, s_X7_walkerOf_40, s_X7_walkerOf_41, s_X7_walkerOf_44, s_X7_walkerOf_45, s_X7_walkerOf_46, s_X7_walkerOf_49, zN_neg1, nL0, nL1, nL2, nL3, nL4, nL5, nL6, nL7, nL8, nL9, nL10, nL11, nL12, nL13, nL14, nL20, nL21, nL22, nL23, nL25, nL32, nL33, nL39, nL40, nL43, nL44, nL99, nL100, nL120, nL216, nL217, nL218, nL219, nL220, nL221, nL500, nL999, nL1000, nL10000, nL100000, qLtI, qLeI, qEqI, zN_toInt, qM1I, iT_lt, iF_lt, iT_le, iF_le, iT_eq, iF_eq, ↓reduceIte, and_true, true_and, false_and, and_false, not_true_eq_false, not_false_eq_true, qAv, qAn, cond_true, cond_false, Option.bind_some, List.getElem?_cons_succ, List.getElem?_cons_zero, hg, t1, hh]; rfl
theorem x_streetOf (hC : clsW xx Fq w) : ∃ w1, clsW xx Fq w1 ∧ frm xx w w1 ∧ pwX so 102 0 [some (.ref xx), some (.int kq), some (.int pq)] [] g w = some (oC (fun jq => if jq = 1 then 2 else 0) (fStreetOf Fq kq pq) g w1) := by
  have hg := @hx_g xx w Fq hC
  obtain ⟨t0, t1, t2, t3⟩ := hx_t hC
  have hh := @hasS so g xx w Fq kq hC
  refine ⟨w, hC, frm_s, ?_⟩
  unfold fStreetOf
  by_cases h0 : isSd Fq.2.1 kq
  · rw [if_pos h0] at hh
    rw [if_pos h0]
    by_cases h1 : 0 ≤ pq.toInt ∧ pq.toInt ≤ 9
    · rw [if_pos h1]
      obtain ⟨nq, rfl, e1, e2, e3⟩ := un_ex h1.1
      obtain ⟨k9, rfl, e4, e5, e6⟩ := un_ex h0.1
      obtain ⟨-, ⟨hI, xq, sc, Rq, hT, hw⟩, -⟩ := hC
      have h02 := h0.2
      have a := @c_numS so g (xx + 4) xq sc Rq w Fq.2.1 k9 nq hI hT (by omega) (by omega)
      rw [← hw] at a
      rw [oC_0, e3, e6]
      simp (disch := omega) only [s_X7_streetOf_0, s_X7_streetOf_1, s_X7_streetOf_4, s_X7_streetOf_7, s_X7_streetOf_8, s_X7_streetOf_11, s_X7_streetOf_14, s_X7_streetOf_24, s_X7_streetOf_25, s_X7_streetOf_28, s_X7_streetOf_29, s_X7_streetOf_31, s_X7_streetOf_34, s_X7_streetOf_44, s_X7_streetOf_45, s_X7_streetOf_48, s_X7_streetOf_49, s_X7_streetOf_50, s_X7_streetOf_53, zN_neg1, nL0, nL1, nL2, nL3, nL4, nL5, nL6, nL7, nL8, nL9, nL10, nL11, nL12, nL13, nL14, nL20, nL21, nL22, nL23, nL25, nL32, nL33, nL39, nL40, nL43, nL44, nL99, nL100, nL120, nL216, nL217, nL218, nL219, nL220, nL221, nL500, nL999, nL1000, nL10000, nL100000, qLtI, qLeI, qEqI, zN_toInt, qM1I, iT_lt, iF_lt, iT_le, iF_le, iT_eq, iF_eq, ↓reduceIte, and_true, true_and, false_and, and_false, not_true_eq_false, not_false_eq_true, qAv, qAn, cond_true, cond_false, Option.bind_some, List.getElem?_cons_succ, List.getElem?_cons_zero, hg, t0, t1, t2, hh, a]
    · rw [if_neg h1, show (2 : Nat) = 1 + 1 from rfl, oC_s]
      by_cases h2 : 0 ≤ pq.toInt
      · simp (disch := omega) only [s_X7_streetOf_0, s_X7_streetOf_1, s_X7_streetOf_4, s_X7_streetOf_7, s_X7_streetOf_8, s_X7_streetOf_11, s_X7_streetOf_14, s_X7_streetOf_24, s_X7_streetOf_25, s_X7_streetOf_28, s_X7_streetOf_29, s_X7_streetOf_31, s_X7_streetOf_34, s_X7_streetOf_44, s_X7_streetOf_45, s_X7_streetOf_48, s_X7_streetOf_49, s_X7_streetOf_50, s_X7_streetOf_53, zN_neg1, nL0, nL1, nL2, nL3, nL4, nL5, nL6, nL7, nL8, nL9, nL10, nL11, nL12, nL13, nL14, nL20, nL21, nL22, nL23, nL25, nL32, nL33, nL39, nL40, nL43, nL44, nL99, nL100, nL120, nL216, nL217, nL218, nL219, nL220, nL221, nL500, nL999, nL1000, nL10000, nL100000, qLtI, qLeI, qEqI, zN_toInt, qM1I, iT_lt, iF_lt, iT_le, iF_le, iT_eq, iF_eq, ↓reduceIte, and_true, true_and, false_and, and_false, not_true_eq_false, not_false_eq_true, qAv, qAn, cond_true, cond_false, Option.bind_some, List.getElem?_cons_succ, List.getElem?_cons_zero, hg, t0, t1, t2, hh]; rfl
      · simp (disch := omega) only [s_X7_streetOf_0, s_X7_streetOf_1, s_X7_streetOf_4, s_X7_streetOf_7, s_X7_streetOf_8, s_X7_streetOf_11, s_X7_streetOf_14, s_X7_streetOf_24, s_X7_streetOf_25, s_X7_streetOf_28, s_X7_streetOf_29, s_X7_streetOf_31, s_X7_streetOf_34, s_X7_streetOf_44, s_X7_streetOf_45, s_X7_streetOf_48, s_X7_streetOf_49, s_X7_streetOf_50, s_X7_streetOf_53, zN_neg1, nL0, nL1, nL2, nL3, nL4, nL5, nL6, nL7, nL8, nL9, nL10, nL11, nL12, nL13, nL14, nL20, nL21, nL22, nL23, nL25, nL32, nL33, nL39, nL40, nL43, nL44, nL99, nL100, nL120, nL216, nL217, nL218, nL219, nL220, nL221, nL500, nL999, nL1000, nL10000, nL100000, qLtI, qLeI, qEqI, zN_toInt, qM1I, iT_lt, iF_lt, iT_le, iF_le, iT_eq, iF_eq, ↓reduceIte, and_true, true_and, false_and, and_false, not_true_eq_false, not_false_eq_true, qAv, qAn, cond_true, cond_false, Option.bind_some, List.getElem?_cons_succ, List.getElem?_cons_zero, hg, t0, t1, t2, hh]; rfl
  · rw [if_neg h0] at hh
    rw [if_neg h0, show (1 : Nat) = 0 + 1 from rfl, oC_s]
    simp (disch := omega) only [s_X7_streetOf_0, s_X7_streetOf_1, s_X7_streetOf_4, s_X7_streetOf_7, s_X7_streetOf_8, s_X7_streetOf_11, s_X7_streetOf_14, s_X7_streetOf_24, s_X7_streetOf_25, s_X7_streetOf_28, s_X7_streetOf_29, s_X7_streetOf_31, s_X7_streetOf_34, s_X7_streetOf_44, s_X7_streetOf_45, s_X7_streetOf_48, s_X7_streetOf_49, s_X7_streetOf_50, s_X7_streetOf_53, zN_neg1, nL0, nL1, nL2, nL3, nL4, nL5, nL6, nL7, nL8, nL9, nL10, nL11, nL12, nL13, nL14, nL20, nL21, nL22, nL23, nL25, nL32, nL33, nL39, nL40, nL43, nL44, nL99, nL100, nL120, nL216, nL217, nL218, nL219, nL220, nL221, nL500, nL999, nL1000, nL10000, nL100000, qLtI, qLeI, qEqI, zN_toInt, qM1I, iT_lt, iF_lt, iT_le, iF_le, iT_eq, iF_eq, ↓reduceIte, and_true, true_and, false_and, and_false, not_true_eq_false, not_false_eq_true, qAv, qAn, cond_true, cond_false, Option.bind_some, List.getElem?_cons_succ, List.getElem?_cons_zero, hg, t0, t1, t2, hh]; rfl
theorem x_cell (hC : clsW xx Fq w) : ∃ w1, clsW xx Fq w1 ∧ frm xx w w1 ∧ pwX so 103 0 [some (.ref xx), some (.int kq), some (.int pq)] [] g w = some (oC (fun _ => 2) (fCell Fq kq pq) g w1) := by
  have hg := @hx_g xx w Fq hC
  obtain ⟨t0, t1, t2, t3⟩ := hx_t hC
  have hh := @hasS so g xx w Fq kq hC
  refine ⟨w, hC, frm_s, ?_⟩
  unfold fCell
  by_cases h0 : isSd Fq.2.1 kq
  · rw [if_pos h0] at hh
    obtain ⟨k9, rfl, e4, e5, e6⟩ := un_ex h0.1
    obtain ⟨-, ⟨hI, xq, sc, Rq, hT, hw⟩, -⟩ := hC
    have h02 := h0.2
    have hs : k9 < tN Fq.2.1 0 := by omega
    have h4 := hI.1
    obtain ⟨⟨⟨i1, i2⟩, -⟩, -⟩ := hI.2.2 k9 hs
    have ac := @m_cellsOf so g (xx + 4) xq sc Rq w k9 (by omega)
    rw [← hw, (hT.1.2.1 k9 hs).1] at ac
    rw [e6]
    by_cases h1 : 0 ≤ pq.toInt
    · obtain ⟨nq, rfl, e1, e2, e3⟩ := un_ex h1
      by_cases h2 : nq < tN Fq.2.1 (4 + k9)
      · rw [if_pos ⟨h0, h1, by omega⟩, oC_0, e3]
        have a := @c_cellq so g (xx + 4) xq sc Rq w Fq.2.1 k9 nq hI hT hs (by omega)
        rw [← hw] at a
        simp (disch := omega) only [s_X7_cell_0, s_X7_cell_1, s_X7_cell_4, s_X7_cell_7, s_X7_cell_8, s_X7_cell_11, s_X7_cell_14, s_X7_cell_15, s_X7_cell_18, s_X7_cell_19, s_X7_cell_20, s_X7_cell_23, s_X7_cell_26, s_X7_cell_27, s_X7_cell_30, s_X7_cell_33, s_X7_cell_43, s_X7_cell_44, s_X7_cell_47, s_X7_cell_48, s_X7_cell_49, s_X7_cell_52, zN_neg1, nL0, nL1, nL2, nL3, nL4, nL5, nL6, nL7, nL8, nL9, nL10, nL11, nL12, nL13, nL14, nL20, nL21, nL22, nL23, nL25, nL32, nL33, nL39, nL40, nL43, nL44, nL99, nL100, nL120, nL216, nL217, nL218, nL219, nL220, nL221, nL500, nL999, nL1000, nL10000, nL100000, qLtI, qLeI, qEqI, zN_toInt, qM1I, iT_lt, iF_lt, iT_le, iF_le, iT_eq, iF_eq, ↓reduceIte, and_true, true_and, false_and, and_false, not_true_eq_false, not_false_eq_true, qAv, qAn, cond_true, cond_false, Option.bind_some, List.getElem?_cons_succ, List.getElem?_cons_zero, hg, t0, t1, t2, hh, ac, a]
      · rw [if_neg (fun h => h2 (by have := h.2.2; omega)), show (1 : Nat) = 0 + 1 from rfl, oC_s]
        simp (disch := omega) only [s_X7_cell_0, s_X7_cell_1, s_X7_cell_4, s_X7_cell_7, s_X7_cell_8, s_X7_cell_11, s_X7_cell_14, s_X7_cell_15, s_X7_cell_18, s_X7_cell_19, s_X7_cell_20, s_X7_cell_23, s_X7_cell_26, s_X7_cell_27, s_X7_cell_30, s_X7_cell_33, s_X7_cell_43, s_X7_cell_44, s_X7_cell_47, s_X7_cell_48, s_X7_cell_49, s_X7_cell_52, zN_neg1, nL0, nL1, nL2, nL3, nL4, nL5, nL6, nL7, nL8, nL9, nL10, nL11, nL12, nL13, nL14, nL20, nL21, nL22, nL23, nL25, nL32, nL33, nL39, nL40, nL43, nL44, nL99, nL100, nL120, nL216, nL217, nL218, nL219, nL220, nL221, nL500, nL999, nL1000, nL10000, nL100000, qLtI, qLeI, qEqI, zN_toInt, qM1I, iT_lt, iF_lt, iT_le, iF_le, iT_eq, iF_eq, ↓reduceIte, and_true, true_and, false_and, and_false, not_true_eq_false, not_false_eq_true, qAv, qAn, cond_true, cond_false, Option.bind_some, List.getElem?_cons_succ, List.getElem?_cons_zero, hg, t0, t1, t2, hh, ac]; rfl
    · rw [if_neg (fun h => h1 h.2.1), show (1 : Nat) = 0 + 1 from rfl, oC_s]
      simp (disch := omega) only [s_X7_cell_0, s_X7_cell_1, s_X7_cell_4, s_X7_cell_7, s_X7_cell_8, s_X7_cell_11, s_X7_cell_14, s_X7_cell_15, s_X7_cell_18, s_X7_cell_19, s_X7_cell_20, s_X7_cell_23, s_X7_cell_26, s_X7_cell_27, s_X7_cell_30, s_X7_cell_33, s_X7_cell_43, s_X7_cell_44, s_X7_cell_47, s_X7_cell_48, s_X7_cell_49, s_X7_cell_52, zN_neg1, nL0, nL1, nL2, nL3, nL4, nL5, nL6, nL7, nL8, nL9, nL10, nL11, nL12, nL13, nL14, nL20, nL21, nL22, nL23, nL25, nL32, nL33, nL39, nL40, nL43, nL44, nL99, nL100, nL120, nL216, nL217, nL218, nL219, nL220, nL221, nL500, nL999, nL1000, nL10000, nL100000, qLtI, qLeI, qEqI, zN_toInt, qM1I, iT_lt, iF_lt, iT_le, iF_le, iT_eq, iF_eq, ↓reduceIte, and_true, true_and, false_and, and_false, not_true_eq_false, not_false_eq_true, qAv, qAn, cond_true, cond_false, Option.bind_some, List.getElem?_cons_succ, List.getElem?_cons_zero, hg, t0, t1, t2, hh, ac]; rfl
  · rw [if_neg h0] at hh
    rw [if_neg (fun h => h0 h.1), show (1 : Nat) = 0 + 1 from rfl, oC_s]
    simp (disch := omega) only [s_X7_cell_0, s_X7_cell_1, s_X7_cell_4, s_X7_cell_7, s_X7_cell_8, s_X7_cell_11, s_X7_cell_14, s_X7_cell_15, s_X7_cell_18, s_X7_cell_19, s_X7_cell_20, s_X7_cell_23, s_X7_cell_26, s_X7_cell_27, s_X7_cell_30, s_X7_cell_33, s_X7_cell_43, s_X7_cell_44, s_X7_cell_47, s_X7_cell_48, s_X7_cell_49, s_X7_cell_52, zN_neg1, nL0, nL1, nL2, nL3, nL4, nL5, nL6, nL7, nL8, nL9, nL10, nL11, nL12, nL13, nL14, nL20, nL21, nL22, nL23, nL25, nL32, nL33, nL39, nL40, nL43, nL44, nL99, nL100, nL120, nL216, nL217, nL218, nL219, nL220, nL221, nL500, nL999, nL1000, nL10000, nL100000, qLtI, qLeI, qEqI, zN_toInt, qM1I, iT_lt, iF_lt, iT_le, iF_le, iT_eq, iF_eq, ↓reduceIte, and_true, true_and, false_and, and_false, not_true_eq_false, not_false_eq_true, qAv, qAn, cond_true, cond_false, Option.bind_some, List.getElem?_cons_succ, List.getElem?_cons_zero, hg, t0, t1, t2, hh]; rfl
theorem x_file (hC : clsW xx Fq w) : ∃ w1, clsW xx Fq w1 ∧ frm xx w w1 ∧ pwX so 104 0 [some (.ref xx), some (.int kq)] [] g w = some (oC (fun _ => 2) (fFile Fq kq) g w1) := by
  have hg := @hx_g xx w Fq hC
  obtain ⟨t0, t1, t2, t3⟩ := hx_t hC
  have hh := @hasP so g xx w Fq kq hC
  refine ⟨w, hC, frm_s, ?_⟩
  unfold fFile
  by_cases h0 : isWd Fq.2.1 kq
  · rw [if_pos h0] at hh
    rw [if_pos h0]
    obtain ⟨k9, rfl, e4, e5, e6⟩ := un_ex h0.1
    obtain ⟨-, ⟨hI, xq, sc, Rq, hT, hw⟩, -⟩ := hC
    have h02 := h0.2
    have a := @c_fileq so g (xx + 4) xq sc Rq w Fq.2.1 k9 hI hT (by omega)
    rw [← hw] at a
    rw [oC_0, e6]
    simp (disch := omega) only [s_X7_file_0, s_X7_file_1, s_X7_file_4, s_X7_file_5, s_X7_file_8, s_X7_file_11, s_X7_file_21, s_X7_file_22, s_X7_file_25, s_X7_file_26, s_X7_file_29, zN_neg1, nL0, nL1, nL2, nL3, nL4, nL5, nL6, nL7, nL8, nL9, nL10, nL11, nL12, nL13, nL14, nL20, nL21, nL22, nL23, nL25, nL32, nL33, nL39, nL40, nL43, nL44, nL99, nL100, nL120, nL216, nL217, nL218, nL219, nL220, nL221, nL500, nL999, nL1000, nL10000, nL100000, qLtI, qLeI, qEqI, zN_toInt, qM1I, iT_lt, iF_lt, iT_le, iF_le, iT_eq, iF_eq, ↓reduceIte, and_true, true_and, false_and, and_false, not_true_eq_false, not_false_eq_true, qAv, qAn, cond_true, cond_false, Option.bind_some, List.getElem?_cons_succ, List.getElem?_cons_zero, hg, t1, hh, a]
  · rw [if_neg h0] at hh
    rw [if_neg h0, show (1 : Nat) = 0 + 1 from rfl, oC_s]
    simp (disch := omega) only [s_X7_file_0, s_X7_file_1, s_X7_file_4, s_X7_file_5, s_X7_file_8, s_X7_file_11, s_X7_file_21, s_X7_file_22, s_X7_file_25, s_X7_file_26, s_X7_file_29, zN_neg1, nL0, nL1, nL2, nL3, nL4, nL5, nL6, nL7, nL8, nL9, nL10, nL11, nL12, nL13, nL14, nL20, nL21, nL22, nL23, nL25, nL32, nL33, nL39, nL40, nL43, nL44, nL99, nL100, nL120, nL216, nL217, nL218, nL219, nL220, nL221, nL500, nL999, nL1000, nL10000, nL100000, qLtI, qLeI, qEqI, zN_toInt, qM1I, iT_lt, iF_lt, iT_le, iF_le, iT_eq, iF_eq, ↓reduceIte, and_true, true_and, false_and, and_false, not_true_eq_false, not_false_eq_true, qAv, qAn, cond_true, cond_false, Option.bind_some, List.getElem?_cons_succ, List.getElem?_cons_zero, hg, t1, hh]; rfl
theorem x_read (hC : clsW xx Fq w) : ∃ w1, clsW xx Fq w1 ∧ frm xx w w1 ∧ pwX so 105 0 [some (.ref xx), some (.int kq), some (.int pq)] [] g w = some (oC (fun jq => if jq = 1 then 2 else 0) (fRead Fq kq pq) g w1) := by
  have hg := @hx_g xx w Fq hC
  obtain ⟨t0, t1, t2, t3⟩ := hx_t hC
  have hh := @hasS so g xx w Fq kq hC
  refine ⟨w, hC, frm_s, ?_⟩
  unfold fRead
  by_cases h0 : isSd Fq.2.1 kq
  · rw [if_pos h0] at hh
    rw [if_pos h0]
    by_cases h1 : 0 ≤ pq.toInt
    · rw [if_pos h1]
      obtain ⟨nq, rfl, e1, e2, e3⟩ := un_ex h1
      obtain ⟨k9, rfl, e4, e5, e6⟩ := un_ex h0.1
      obtain ⟨-, ⟨hI, xq, sc, Rq, hT, hw⟩, -⟩ := hC
      have h02 := h0.2
      have a := @c_readq so g (xx + 4) xq sc Rq w Fq.2.1 k9 nq hI hT (by omega) e2
      rw [← hw] at a
      rw [oC_0, e3, e6]
      simp (disch := omega) only [s_X7_read_0, s_X7_read_1, s_X7_read_4, s_X7_read_7, s_X7_read_8, s_X7_read_11, s_X7_read_14, s_X7_read_24, s_X7_read_25, s_X7_read_28, s_X7_read_38, s_X7_read_39, s_X7_read_42, s_X7_read_45, s_X7_read_46, s_X7_read_47, s_X7_read_50, zN_neg1, nL0, nL1, nL2, nL3, nL4, nL5, nL6, nL7, nL8, nL9, nL10, nL11, nL12, nL13, nL14, nL20, nL21, nL22, nL23, nL25, nL32, nL33, nL39, nL40, nL43, nL44, nL99, nL100, nL120, nL216, nL217, nL218, nL219, nL220, nL221, nL500, nL999, nL1000, nL10000, nL100000, qLtI, qLeI, qEqI, zN_toInt, qM1I, iT_lt, iF_lt, iT_le, iF_le, iT_eq, iF_eq, ↓reduceIte, and_true, true_and, false_and, and_false, not_true_eq_false, not_false_eq_true, qAv, qAn, cond_true, cond_false, Option.bind_some, List.getElem?_cons_succ, List.getElem?_cons_zero, hg, t0, t1, t2, hh, a]
    · rw [if_neg h1, show (2 : Nat) = 1 + 1 from rfl, oC_s]
      simp (disch := omega) only [s_X7_read_0, s_X7_read_1, s_X7_read_4, s_X7_read_7, s_X7_read_8, s_X7_read_11, s_X7_read_14, s_X7_read_24, s_X7_read_25, s_X7_read_28, s_X7_read_38, s_X7_read_39, s_X7_read_42, s_X7_read_45, s_X7_read_46, s_X7_read_47, s_X7_read_50, zN_neg1, nL0, nL1, nL2, nL3, nL4, nL5, nL6, nL7, nL8, nL9, nL10, nL11, nL12, nL13, nL14, nL20, nL21, nL22, nL23, nL25, nL32, nL33, nL39, nL40, nL43, nL44, nL99, nL100, nL120, nL216, nL217, nL218, nL219, nL220, nL221, nL500, nL999, nL1000, nL10000, nL100000, qLtI, qLeI, qEqI, zN_toInt, qM1I, iT_lt, iF_lt, iT_le, iF_le, iT_eq, iF_eq, ↓reduceIte, and_true, true_and, false_and, and_false, not_true_eq_false, not_false_eq_true, qAv, qAn, cond_true, cond_false, Option.bind_some, List.getElem?_cons_succ, List.getElem?_cons_zero, hg, t0, t1, t2, hh]; rfl
  · rw [if_neg h0] at hh
    rw [if_neg h0, show (1 : Nat) = 0 + 1 from rfl, oC_s]
    simp (disch := omega) only [s_X7_read_0, s_X7_read_1, s_X7_read_4, s_X7_read_7, s_X7_read_8, s_X7_read_11, s_X7_read_14, s_X7_read_24, s_X7_read_25, s_X7_read_28, s_X7_read_38, s_X7_read_39, s_X7_read_42, s_X7_read_45, s_X7_read_46, s_X7_read_47, s_X7_read_50, zN_neg1, nL0, nL1, nL2, nL3, nL4, nL5, nL6, nL7, nL8, nL9, nL10, nL11, nL12, nL13, nL14, nL20, nL21, nL22, nL23, nL25, nL32, nL33, nL39, nL40, nL43, nL44, nL99, nL100, nL120, nL216, nL217, nL218, nL219, nL220, nL221, nL500, nL999, nL1000, nL10000, nL100000, qLtI, qLeI, qEqI, zN_toInt, qM1I, iT_lt, iF_lt, iT_le, iF_le, iT_eq, iF_eq, ↓reduceIte, and_true, true_and, false_and, and_false, not_true_eq_false, not_false_eq_true, qAv, qAn, cond_true, cond_false, Option.bind_some, List.getElem?_cons_succ, List.getElem?_cons_zero, hg, t0, t1, t2, hh]; rfl
end QA

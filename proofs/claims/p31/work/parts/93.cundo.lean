/-! the pure part: the class takes back; its actions called from outside -/
def fUndo (Fq : FS) : (Nat × Int32) × FS := match Fq.2.2.1.reverse with
  | [] => ((1, 0), Fq)
  | Aq :: hs => ((0, zN hs.length), (Fq.1, Aq, hs.reverse, Fq.2.2.2))
abbrev okL (pq : Int32) : Prop := 0 ≤ pq.toInt ∧ pq.toInt ≤ 25
abbrev okSh (pq : Int32) : Prop := 0 ≤ pq.toInt ∧ pq.toInt ≤ 39
abbrev okLd (pq rq tq uq : Int32) : Prop := (2 ≤ pq.toInt ∧ pq.toInt ≤ 20) ∧ (1 ≤ rq.toInt ∧ rq.toInt ≤ 20) ∧ (0 ≤ tq.toInt ∧ tq.toInt ≤ 20) ∧ 1 ≤ uq.toInt ∧ uq.toInt ≤ 6
abbrev okSt (pq rq : Int32) : Prop := (pq.toInt = 0 ∧ 0 ≤ rq.toInt ∧ rq.toInt ≤ 3) ∨ (pq.toInt = 1 ∧ 0 ≤ rq.toInt ∧ rq.toInt ≤ 1)
abbrev okTk (pq : Int32) : Prop := 1 ≤ pq.toInt ∧ pq.toInt ≤ 99
def fAct (Fq : FS) (Aq : TA) : FS := (Fq.1, Aq, pushH Fq.2.2.1 Fq.2.1, Fq.2.2.2)
def fWalker (Fq : FS) (pq : Int32) : (Nat × Int32) × FS := if okL pq then (if tN Fq.2.1 1 < 10 then ((0, zN (tN Fq.2.1 1)), fAct Fq (tWalker Fq.2.1 pq)) else ((2, 0), Fq)) else ((1, 0), Fq)
def fStreet (Fq : FS) (pq rq tq uq : Int32) : (Nat × Int32) × FS := if okLd pq rq tq uq then (if tN Fq.2.1 0 < 4 ∧ (tL Fq.2.1 0).length = 0 then ((0, zN (tN Fq.2.1 0)), fAct Fq (tAdd Fq.2.1 (un pq) (un rq) (un tq) (un uq))) else ((2, 0), Fq)) else ((1, 0), Fq)
def fShift (Fq : FS) (kq pq : Int32) : (Nat × Int32) × FS := if isSd Fq.2.1 kq then (if okSh pq then ((0, zN (tN Fq.2.1 (16 + un kq))), fAct Fq (tNum Fq.2.1 (16 + un kq) (un pq))) else ((2, 0), Fq)) else ((1, 0), Fq)
def fLetter (Fq : FS) (kq pq : Int32) : (Nat × Int32) × FS := if isWd Fq.2.1 kq then (if okL pq then ((0, tE Fq.2.1 (un kq)), fAct Fq (tLetter Fq.2.1 (un kq) pq)) else ((2, 0), Fq)) else ((1, 0), Fq)
def fExch (Fq : FS) (kq pq : Int32) : (Nat × Int32) × FS := if isWd Fq.2.1 kq ∧ isWd Fq.2.1 pq then (if un kq = un pq then ((2, 0), Fq) else if un kq ∈ tL Fq.2.1 0 ∨ un pq ∈ tL Fq.2.1 0 then ((3, 0), Fq) else ((0, zN (aWr Fq.2.1) - zN (aWr (tSwap Fq.2.1 (un kq) (un pq)))), fAct Fq (tSwap Fq.2.1 (un kq) (un pq)))) else ((1, 0), Fq)
def fBack (Fq : FS) : (Nat × Int32) × FS := ((0, zN (tN Fq.2.1 1) - zN (tL Fq.2.1 1).length), fAct Fq (tBack Fq.2.1))
def fSet (Fq : FS) (kq pq : Int32) : (Nat × Int32) × FS := if okSt kq pq then ((0, zN (tN Fq.2.1 (2 + un kq))), fAct Fq (tNum Fq.2.1 (2 + un kq) (un pq))) else ((1, 0), Fq)
def fTicks (Fq : FS) (pq : Int32) : (Nat × Int32) × FS := if okTk pq then ((0, zN (tL (tTicks (un pq) Fq.2.1) 0).length - zN (tL Fq.2.1 0).length), fAct Fq (tTicks (un pq) Fq.2.1)) else ((1, 0), Fq)
section QA
variable {so : Nat → Nat} {g : pwG} {xx : Nat} {w w1 : pwW} {Fq : FS} {pq kq rq tq uq : Int32}
theorem m_takeBack {hs : List TA} {Aq : TA} (hC : clsW xx Fq w) (hh : Fq.2.2.1 = hs ++ [Aq]) : ∃ w1, clsW xx (Fq.1, Aq, hs, Fq.2.2.2) w1 ∧ frm xx w w1 ∧ pwX so 3 0 [some (.ref (xx + 36)), some (.ref (xx + 4)), none, none] [] g w = some (.inl none, g, w1) := by
  obtain ⟨c1, ⟨hI, xq, sc, Rq, hT, hw⟩, c3, ⟨c4, fr, c5⟩, c6, ⟨hl, nx, hn, c7, ⟨fz, c8, c9⟩, c10, c11⟩, c12, c13⟩ := hC
  rw [hh, List.length_append, List.length_singleton] at hl
  have hlast := c11 hs.length Aq (by rw [hh, List.getElem?_append_right (Nat.le_refl _), Nat.sub_self]; rfl)
  rw [hh, List.length_append, List.length_singleton] at c7 hlast
  have hL : (nx + 14 - (hs.length + 1) + hs.length) % 14 = (nx + 14 - 1) % 14 := by congr 1; omega
  rw [hL] at hlast
  generalize hLL : (nx + 14 - 1) % 14 = LL at hlast
  have hL14 : LL < 14 := by rw [← hLL]; exact Nat.mod_lt _ (by decide)
  obtain ⟨hJ, xb, sb, Rb, hTb, hb⟩ := hlast
  have e1 := @m_stateAt so g xx w LL fz _ _ c7 c8 (c9 LL hL14) hL14
  obtain ⟨sa, Ra, a1, a2⟩ := @c_become so g (xx + 4) (xx + 38 + 15 * LL) xq xb sc sb Rq Rb w Aq (by omega) hJ hTb
  rw [← hb, ← hw] at a2
  have ho : ∀ aq, (aq < xx + 4 ∨ xx + 19 ≤ aq) → mkT (xx + 4) xb sa Ra w aq = w aq := fun aq h => mkT_o (by omega)
  have i1 : pwIsC w (xx + 36) 0 = true := ci_ c7
  have i2 : pwIsC w (xx + 4) 4 = true := by rw [hw]; exact mkT_i
  have q1 : pwGet w (xx + 36) 0 2 = some (.int (zN nx)) := cg c7
  have q0 : pwGet w (xx + 36) 0 0 = some (.int (zN (hs.length + 1))) := cg c7
  have g0 : mkT (xx + 4) xb sa Ra w (xx + 36) = .inr (0, [.int (zN (hs.length + 1)), .ref (xx + 37), .int (zN nx)]) := by rw [ho _ (by omega)]; exact c7
  have p1 : pwPut (mkT (xx + 4) xb sa Ra w) (xx + 36) 0 2 (.int (zN LL)) = some (va_up (mkT (xx + 4) xb sa Ra w) (xx + 36) (.inr (0, [.int (zN (hs.length + 1)), .ref (xx + 37), .int (zN LL)]))) := pp_ g0 (by show 2 < 3; decide)
  have g2 : va_up (mkT (xx + 4) xb sa Ra w) (xx + 36) (.inr (0, [.int (zN (hs.length + 1)), .ref (xx + 37), .int (zN LL)])) (xx + 36) = .inr (0, [.int (zN (hs.length + 1)), .ref (xx + 37), .int (zN LL)]) := va_up_self _ _ _
  have g3 := cg (kk := 0) g2
  have p2 : pwPut (va_up (mkT (xx + 4) xb sa Ra w) (xx + 36) (.inr (0, [.int (zN (hs.length + 1)), .ref (xx + 37), .int (zN LL)]))) (xx + 36) 0 0 (.int (zN hs.length)) = some (va_up (va_up (mkT (xx + 4) xb sa Ra w) (xx + 36) (.inr (0, [.int (zN (hs.length + 1)), .ref (xx + 37), .int (zN LL)]))) (xx + 36) (.inr (0, [.int (zN hs.length), .ref (xx + 37), .int (zN LL)]))) := pp_ g2 (by show 0 < 3; decide)
  refine ⟨va_up (va_up (mkT (xx + 4) xb sa Ra w) (xx + 36) (.inr (0, [.int (zN (hs.length + 1)), .ref (xx + 37), .int (zN LL)]))) (xx + 36) (.inr (0, [.int (zN hs.length), .ref (xx + 37), .int (zN LL)])), ?_, ?_, ?_⟩
  · generalize hW : va_up (va_up (mkT (xx + 4) xb sa Ra w) (xx + 36) (.inr (0, [.int (zN (hs.length + 1)), .ref (xx + 37), .int (zN LL)]))) (xx + 36) (.inr (0, [.int (zN hs.length), .ref (xx + 37), .int (zN LL)])) = wz
    have hf : ∀ aq, aq ≠ xx + 36 → (aq < xx + 4 ∨ xx + 19 ≤ aq) → wz aq = w aq := fun aq x1 x2 => by
      rw [← hW, va_up_ne _ _ x1, va_up_ne _ _ x1]; exact ho aq x2
    have hs2 : ∀ aq, xx + 4 ≤ aq → aq < xx + 4 + 15 → wz aq = mkT (xx + 4) xb sa Ra w aq := fun aq x1 x2 => by
      rw [← hW, va_up_ne _ _ (by omega), va_up_ne _ _ (by omega)]
    refine ⟨by rw [hf _ (by omega) (by omega)]; exact c1, tA_fr hs2 (tA_mk hJ a1), tAny_fr (fun aq a c => hf aq (by omega) (by omega)) c3, ⟨by rw [hf _ (by omega) (by omega)]; exact c4, fr, by rw [hf _ (by omega) (by omega)]; exact c5⟩, textW_fr (fun aq a c => hf aq (by omega) (by omega)) c6, ?_, slotW_fr (fun aq a c => hf aq (by omega) (by omega)) c12, slotW_fr (fun aq a c => hf aq (by omega) (by omega)) c13⟩
    refine ⟨by show hs.length ≤ 14; omega, LL, hL14, ?_, ⟨fz, by rw [hf _ (by omega) (by omega)]; exact c8, c9⟩, fun iq hi => tAny_fr (fun aq x1 x2 => hf aq (by omega) (by omega)) (c10 iq hi), fun iq Bq hb2 => ?_⟩
    · show wz (xx + 36) = _
      rw [← hW, va_up_self]
    · have hb2 : hs[iq]? = some Bq := hb2
      have hi := (List.getElem?_eq_some_iff.mp hb2).1
      have h9 := c11 iq Bq (by rw [hh, List.getElem?_append_left hi]; exact hb2)
      rw [hh, List.length_append, List.length_singleton] at h9
      show tA (xx + 38 + 15 * ((LL + 14 - hs.length + iq) % 14)) Bq wz
      have hm : (LL + 14 - hs.length + iq) % 14 = (nx + 14 - (hs.length + 1) + iq) % 14 := by omega
      rw [hm]
      have hlt : (nx + 14 - (hs.length + 1) + iq) % 14 < 14 := Nat.mod_lt _ (by decide)
      exact tA_fr (fun aq x1 x2 => hf aq (by omega) (by omega)) h9
  · intro aq ha
    rw [va_up_ne _ _ (by omega), va_up_ne _ _ (by omega)]
    exact ho aq (by omega)
  · simp (disch := omega) only [s_X0_takeBack_0, s_X0_takeBack_1, s_X0_takeBack_4, s_X0_takeBack_6, s_X0_takeBack_7, s_X0_takeBack_8, s_X0_takeBack_9, s_X0_takeBack_11, s_X0_takeBack_12, s_X0_takeBack_13, s_X0_takeBack_14, s_X0_takeBack_15, s_X0_takeBack_18, s_X0_takeBack_19, s_X0_takeBack_20, s_X0_takeBack_23, s_X0_takeBack_24, s_X0_takeBack_27, s_X0_takeBack_30, s_X0_takeBack_31, s_X0_takeBack_32, s_X0_takeBack_33, s_X0_takeBack_36, s_X0_takeBack_37, s_X0_takeBack_38, s_X0_takeBack_41, s_X0_takeBack_42, s_X0_takeBack_43, s_X0_takeBack_46, s_X0_takeBack_47, s_X0_takeBack_48, s_X0_takeBack_51, zN_neg1, nL0, nL1, nL2, nL3, nL4, nL5, nL6, nL7, nL8, nL9, nL10, nL11, nL12, nL13, nL14, nL20, nL21, nL22, nL23, nL25, nL32, nL33, nL39, nL40, nL43, nL44, nL99, nL100, nL120, nL216, nL217, nL218, nL219, nL220, nL221, nL500, nL999, nL1000, nL10000, nL100000, sh33, zN_lt, zN_le, zN_eq, zN_ge0, zN_lt0, zN_nm, zN_mn, zN_mlt, zN_ltm, zN_lem, zN_mle, zN_m1, zN_m2, zN_addm, zN_ofNat, zN_beq, zN_add, zN_sub, zN_mul, zN_rem, qT_lt, qF_lt, qT_le, qF_le, qT_eq, qF_eq, ↓reduceIte, and_true, true_and, false_and, and_false, not_true_eq_false, not_false_eq_true, decide_true, decide_false, Bool.true_or, Bool.or_true, Bool.false_or, Bool.or_false, cond_true, cond_false, qAv, qAn, cond_true, Option.bind_some, i1, i2, q1, q0, hLL, e1, a2, p1, g3, p2, List.getElem?_cons_zero, Nat.add_sub_cancel]
theorem x_undo (hC : clsW xx Fq w) : ∃ w1, clsW xx (fUndo Fq).2 w1 ∧ frm xx w w1 ∧ pwX so 114 0 [some (.ref xx)] [] g w = some (oC (fun _ => 1) (fUndo Fq).1 g w1) := by
  have hg := @hx_g xx w Fq hC
  have hC2 := hC
  obtain ⟨c1, ⟨hI, xq, sc, Rq, hT, hw⟩, c3, ⟨c4, fr, c5⟩, c6, ⟨hl, nx, hn, c7, ⟨fz, c8, c9⟩, c10, c11⟩, c12, c13⟩ := hC2
  have q0 : pwGet w (xx + 36) 0 0 = some (.int (zN Fq.2.2.1.length)) := cg c7
  have i0 : pwIsC w (xx + 36) 0 = true := ci_ c7
  unfold fUndo
  split
  · next h =>
    have h0 : Fq.2.2.1 = [] := List.reverse_eq_nil_iff.mp h
    rw [h0] at q0
    have q0 : pwGet w (xx + 36) 0 0 = some (.int (zN 0)) := q0
    refine ⟨w, hC, frm_s, ?_⟩
    show _ = some (oC (fun _ => 1) (0 + 1, 0) g w)
    rw [oC_s]
    simp (disch := omega) only [s_X7_undo_0, s_X7_undo_1, s_X7_undo_4, s_X7_undo_7, s_X7_undo_10, s_X7_undo_20, s_X7_undo_21, s_X7_undo_24, s_X7_undo_25, s_X7_undo_28, s_X7_undo_31, s_X7_undo_32, s_X7_undo_35, s_X7_undo_38, zN_neg1, nL0, nL1, nL2, nL3, nL4, nL5, nL6, nL7, nL8, nL9, nL10, nL11, nL12, nL13, nL14, nL20, nL21, nL22, nL23, nL25, nL32, nL33, nL39, nL40, nL43, nL44, nL99, nL100, nL120, nL216, nL217, nL218, nL219, nL220, nL221, nL500, nL999, nL1000, nL10000, nL100000, qLtI, qLeI, qEqI, zN_toInt, qM1I, iT_lt, iF_lt, iT_le, iF_le, iT_eq, iF_eq, ↓reduceIte, and_true, true_and, false_and, and_false, not_true_eq_false, not_false_eq_true, qAv, qAn, cond_true, cond_false, Option.bind_some, List.getElem?_cons_succ, List.getElem?_cons_zero, hg, q0]; rfl
  · next Aq hs h =>
    have h0 : Fq.2.2.1 = hs.reverse ++ [Aq] := by
      have := congrArg List.reverse h
      rw [List.reverse_reverse, List.reverse_cons] at this; exact this
    have hlen : Fq.2.2.1.length = hs.length + 1 := by rw [h0, List.length_append, List.length_reverse]; rfl
    obtain ⟨w1, d1, d2, d3⟩ := @m_takeBack so g xx w Fq hs.reverse Aq hC h0
    have hg1 := @hx_g xx w1 _ d1
    have d9 := d1
    obtain ⟨-, -, -, -, -, ⟨-, n1, -, e7, -⟩, -⟩ := d9
    have e7 : w1 (xx + 36) = .inr (0, [.int (zN hs.reverse.length), .ref (xx + 37), .int (zN n1)]) := e7
    rw [List.length_reverse] at e7
    have q1 : pwGet w1 (xx + 36) 0 0 = some (.int (zN hs.length)) := cg e7
    refine ⟨w1, d1, d2, ?_⟩
    show _ = some (oC (fun _ => 1) (0, zN hs.length) g w1)
    rw [oC_0]
    rw [hlen] at q0
    simp (disch := omega) only [s_X7_undo_0, s_X7_undo_1, s_X7_undo_4, s_X7_undo_7, s_X7_undo_10, s_X7_undo_20, s_X7_undo_21, s_X7_undo_24, s_X7_undo_25, s_X7_undo_28, s_X7_undo_31, s_X7_undo_32, s_X7_undo_35, s_X7_undo_38, zN_neg1, nL0, nL1, nL2, nL3, nL4, nL5, nL6, nL7, nL8, nL9, nL10, nL11, nL12, nL13, nL14, nL20, nL21, nL22, nL23, nL25, nL32, nL33, nL39, nL40, nL43, nL44, nL99, nL100, nL120, nL216, nL217, nL218, nL219, nL220, nL221, nL500, nL999, nL1000, nL10000, nL100000, qLtI, qLeI, qEqI, zN_toInt, qM1I, iT_lt, iF_lt, iT_le, iF_le, iT_eq, iF_eq, ↓reduceIte, and_true, true_and, false_and, and_false, not_true_eq_false, not_false_eq_true, qAv, qAn, cond_true, cond_false, Option.bind_some, List.getElem?_cons_succ, List.getElem?_cons_zero, hg, hg1, q0, q1, i0, d3]
end QA

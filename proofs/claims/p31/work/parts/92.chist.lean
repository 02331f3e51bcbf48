/-! the pure part: the class remembers and takes back -/
def pushH (hs : List TA) (Aq : TA) : List TA := if hs.length = 14 then hs.tail ++ [Aq] else hs ++ [Aq]
section QA
variable {so : Nat → Nat} {g : pwG} {xx : Nat} {w w1 : pwW} {Fq : FS} {pq kq : Int32}
theorem pp_ {ci kk aq : Nat} {vs : List Value} {vq : Value} (h : w aq = .inr (ci, vs)) (hk : kk < vs.length) : pwPut w aq ci kk vq = some (va_up w aq (.inr (ci, vs.set kk vq))) := by
  unfold pwPut; rw [h]
  have h1 : Nat.beq ci ci = true := Nat.beq_refl ci
  have h2 : Nat.blt kk vs.length = true := Nat.blt_eq.mpr hk
  dsimp only; rw [h1, h2]; rfl
theorem m_stateAt {nx : Nat} {fz : Nat → Option Nat} {v0 v2 : Value} (h1 : w (xx + 36) = .inr (0, [v0, .ref (xx + 37), v2])) (h2 : w (xx + 37) = .inl (3, 14, .inr (.inr (.inr (.inr fz))))) (h3 : fz nx = some (xx + 38 + 15 * nx)) (hn : nx < 14) : pwX so 4 0 [some (.ref (xx + 36)), some (.int (zN nx))] [] g w = some (.inl (some (.ref (xx + 38 + 15 * nx))), g, w) := by
  have e1 : pwGet w (xx + 36) 0 1 = some (.ref (xx + 37)) := cg h1
  have e2 : pwLen w (xx + 37) = some 14 := by unfold pwLen; rw [h2]; rfl
  have e3 : pwLdQ w (xx + 37) (zN nx) = some (xx + 38 + 15 * nx) := by
    unfold pwLdQ; rw [h2]
    dsimp only
    rw [if_pos ⟨rfl, qIn_of hn (by omega)⟩, zN_nat (by omega)]; exact h3
  simp (disch := omega) only [s_X0_stateAt_0, s_X0_stateAt_1, s_X0_stateAt_4, s_X0_stateAt_5, s_X0_stateAt_6, s_X0_stateAt_9, s_X0_stateAt_10, s_X0_stateAt_13, s_X0_stateAt_14, s_X0_stateAt_17, s_X0_stateAt_18, s_X0_stateAt_19, s_X0_stateAt_23, zN_neg1, nL0, nL1, nL2, nL3, nL4, nL5, nL6, nL7, nL8, nL9, nL10, nL11, nL12, nL13, nL14, nL20, nL21, nL22, nL23, nL25, nL32, nL33, nL39, nL40, nL43, nL44, nL99, nL100, nL120, nL216, nL217, nL218, nL219, nL220, nL221, nL500, nL999, nL1000, nL10000, nL100000, sh33, zN_lt, zN_le, zN_eq, zN_ge0, zN_lt0, zN_nm, zN_mn, zN_mlt, zN_ltm, zN_lem, zN_mle, zN_m1, zN_m2, zN_addm, zN_ofNat, zN_beq, zN_add, zN_sub, zN_mul, zN_rem, qT_lt, qF_lt, qT_le, qF_le, qT_eq, qF_eq, ↓reduceIte, and_true, true_and, false_and, and_false, not_true_eq_false, not_false_eq_true, decide_true, decide_false, Bool.true_or, Bool.or_true, Bool.false_or, Bool.or_false, cond_true, cond_false, e1, e2, e3, Option.bind_some]
theorem m_remember (hC : clsW xx Fq w) : ∃ w1, clsW xx (Fq.1, Fq.2.1, pushH Fq.2.2.1 Fq.2.1, Fq.2.2.2) w1 ∧ frm xx w w1 ∧ pwX so 2 0 [some (.ref (xx + 36)), some (.ref (xx + 4)), none] [] g w = some (.inl none, g, w1) := by
  obtain ⟨c1, ⟨hI, xq, sc, Rq, hT, hw⟩, c3, ⟨c4, fr, c5⟩, c6, ⟨hl, nx, hn, c7, ⟨fz, c8, c9⟩, c10, c11⟩, c12, c13⟩ := hC
  obtain ⟨xb, sb, Rb, hb⟩ := c10 nx hn
  have e1 := @m_stateAt so g xx w nx fz _ _ c7 c8 (c9 nx hn) hn
  obtain ⟨sa, Ra, a1, a2⟩ := @c_become so g (xx + 38 + 15 * nx) (xx + 4) xb xq sb sc Rb Rq w Fq.2.1 (by omega) hI hT
  rw [← hw, ← hb] at a2
  have ho : ∀ aq, (aq < xx + 38 + 15 * nx ∨ xx + 38 + 15 * nx + 15 ≤ aq) → mkT (xx + 38 + 15 * nx) xq sa Ra w aq = w aq := fun aq h => mkT_o h
  have i1 : pwIsC w (xx + 36) 0 = true := ci_ c7
  have i2 : pwIsC w (xx + 38 + 15 * nx) 4 = true := by rw [hb]; exact mkT_i
  have g0 : mkT (xx + 38 + 15 * nx) xq sa Ra w (xx + 36) = .inr (0, [.int (zN Fq.2.2.1.length), .ref (xx + 37), .int (zN nx)]) := by rw [ho _ (by omega)]; exact c7
  have g1 : pwGet (mkT (xx + 38 + 15 * nx) xq sa Ra w) (xx + 36) 0 2 = some (.int (zN nx)) := cg g0
  have p1 : pwPut (mkT (xx + 38 + 15 * nx) xq sa Ra w) (xx + 36) 0 2 (.int (zN ((nx + 1) % 14))) = some (va_up (mkT (xx + 38 + 15 * nx) xq sa Ra w) (xx + 36) (.inr (0, [.int (zN Fq.2.2.1.length), .ref (xx + 37), .int (zN ((nx + 1) % 14))]))) := pp_ g0 (by show 2 < 3; decide)
  have g2 : va_up (mkT (xx + 38 + 15 * nx) xq sa Ra w) (xx + 36) (.inr (0, [.int (zN Fq.2.2.1.length), .ref (xx + 37), .int (zN ((nx + 1) % 14))])) (xx + 36) = .inr (0, [.int (zN Fq.2.2.1.length), .ref (xx + 37), .int (zN ((nx + 1) % 14))]) := va_up_self _ _ _
  have g3 := cg (kk := 0) g2
  have p2 : ∀ cz : Nat, pwPut (va_up (mkT (xx + 38 + 15 * nx) xq sa Ra w) (xx + 36) (.inr (0, [.int (zN Fq.2.2.1.length), .ref (xx + 37), .int (zN ((nx + 1) % 14))]))) (xx + 36) 0 0 (.int (zN cz)) = some (va_up (va_up (mkT (xx + 38 + 15 * nx) xq sa Ra w) (xx + 36) (.inr (0, [.int (zN Fq.2.2.1.length), .ref (xx + 37), .int (zN ((nx + 1) % 14))]))) (xx + 36) (.inr (0, [.int (zN cz), .ref (xx + 37), .int (zN ((nx + 1) % 14))]))) := fun cz => pp_ g2 (by show 0 < 3; decide)
  have hlp : (pushH Fq.2.2.1 Fq.2.1).length = if 14 < Fq.2.2.1.length + 1 then 14 else Fq.2.2.1.length + 1 := by
    unfold pushH
    by_cases hx : Fq.2.2.1.length = 14
    · rw [if_pos hx, if_pos (by omega), List.length_append, List.length_tail, hx]; rfl
    · rw [if_neg hx, if_neg (by omega), List.length_append]; rfl
  refine ⟨va_up (va_up (mkT (xx + 38 + 15 * nx) xq sa Ra w) (xx + 36) (.inr (0, [.int (zN Fq.2.2.1.length), .ref (xx + 37), .int (zN ((nx + 1) % 14))]))) (xx + 36) (.inr (0, [.int (zN (pushH Fq.2.2.1 Fq.2.1).length), .ref (xx + 37), .int (zN ((nx + 1) % 14))])), ?_, ?_, ?_⟩
  · generalize hW : va_up (va_up (mkT (xx + 38 + 15 * nx) xq sa Ra w) (xx + 36) (.inr (0, [.int (zN Fq.2.2.1.length), .ref (xx + 37), .int (zN ((nx + 1) % 14))]))) (xx + 36) (.inr (0, [.int (zN (pushH Fq.2.2.1 Fq.2.1).length), .ref (xx + 37), .int (zN ((nx + 1) % 14))])) = wz
    have hf : ∀ aq, aq ≠ xx + 36 → (aq < xx + 38 + 15 * nx ∨ xx + 38 + 15 * nx + 15 ≤ aq) → wz aq = w aq := fun aq x1 x2 => by
      rw [← hW, va_up_ne _ _ x1, va_up_ne _ _ x1]; exact ho aq x2
    have hs : ∀ aq, xx + 38 + 15 * nx ≤ aq → aq < xx + 38 + 15 * nx + 15 → wz aq = mkT (xx + 38 + 15 * nx) xq sa Ra w aq := fun aq x1 x2 => by
      rw [← hW, va_up_ne _ _ (by omega), va_up_ne _ _ (by omega)]
    refine ⟨by rw [hf _ (by omega) (by omega)]; exact c1, tA_fr (fun aq a c => hf aq (by omega) (by omega)) ⟨hI, xq, sc, Rq, hT, hw⟩, tAny_fr (fun aq a c => hf aq (by omega) (by omega)) c3, ⟨by rw [hf _ (by omega) (by omega)]; exact c4, fr, by rw [hf _ (by omega) (by omega)]; exact c5⟩, textW_fr (fun aq a c => hf aq (by omega) (by omega)) c6, ?_, slotW_fr (fun aq a c => hf aq (by omega) (by omega)) c12, slotW_fr (fun aq a c => hf aq (by omega) (by omega)) c13⟩
    have hl14 : (pushH Fq.2.2.1 Fq.2.1).length ≤ 14 := by rw [hlp]; split <;> omega
    refine ⟨hl14, (nx + 1) % 14, Nat.mod_lt _ (by decide), ?_, ⟨fz, by rw [hf _ (by omega) (by omega)]; exact c8, c9⟩, fun iq hi => ?_, fun iq Aq hh => ?_⟩
    · show wz (xx + 36) = _
      rw [← hW, va_up_self]
    · by_cases hx : iq = nx
      · subst hx
        exact tAny_fr (fun aq x1 x2 => hs aq x1 x2) tAny_mk
      · exact tAny_fr (fun aq x1 x2 => hf aq (by omega) (by omega)) (c10 iq hi)
    · have hh : (pushH Fq.2.2.1 Fq.2.1)[iq]? = some Aq := hh
      have newest : ∀ jz, jz = nx → tA (xx + 38 + 15 * jz) Fq.2.1 wz := fun jz hj => by
        subst hj
        exact tA_fr (fun aq x1 x2 => hs aq x1 x2) (tA_mk hI a1)
      have older : ∀ jz iz, jz < 14 → jz ≠ nx → jz = (nx + 14 - Fq.2.2.1.length + iz) % 14 → Fq.2.2.1[iz]? = some Aq → tA (xx + 38 + 15 * jz) Aq wz := fun jz iz z1 z2 z3 z4 => by
        have := c11 iz Aq z4
        rw [← z3] at this
        exact tA_fr (fun aq x1 x2 => hf aq (by omega) (by omega)) this
      show tA (xx + 38 + 15 * (((nx + 1) % 14 + 14 - (pushH Fq.2.2.1 Fq.2.1).length + iq) % 14)) Aq wz
      have hi := (List.getElem?_eq_some_iff.mp hh).1
      by_cases hx : Fq.2.2.1.length = 14
      · have hlen : (pushH Fq.2.2.1 Fq.2.1).length = 14 := by rw [hlp, if_pos (by omega)]
        rw [hlen] at hi ⊢
        unfold pushH at hh
        rw [if_pos hx] at hh
        by_cases hy : iq < 13
        · rw [List.getElem?_append_left (by rw [List.length_tail]; omega), List.getElem?_tail] at hh
          exact older _ (iq + 1) (Nat.mod_lt _ (by decide)) (by omega) (by rw [hx]; omega) hh
        · have hz : iq = 13 := by omega
          subst hz
          rw [List.getElem?_append_right (by rw [List.length_tail]; omega), List.length_tail, hx] at hh
          cases hh
          exact newest _ (by omega)
      · have hlen : (pushH Fq.2.2.1 Fq.2.1).length = Fq.2.2.1.length + 1 := by rw [hlp, if_neg (by omega)]
        rw [hlen] at hi ⊢
        unfold pushH at hh
        rw [if_neg hx] at hh
        by_cases hy : iq < Fq.2.2.1.length
        · rw [List.getElem?_append_left hy] at hh
          exact older _ iq (Nat.mod_lt _ (by decide)) (by omega) (by omega) hh
        · have hz : iq = Fq.2.2.1.length := by omega
          subst hz
          rw [List.getElem?_append_right (Nat.le_refl _), Nat.sub_self] at hh
          cases hh
          exact newest _ (by omega)
  · intro aq ha
    rw [va_up_ne _ _ (by omega), va_up_ne _ _ (by omega)]
    exact ho aq (by omega)
  · rw [hlp]
    have q1 : pwGet w (xx + 36) 0 2 = some (.int (zN nx)) := cg c7
    by_cases hx : 14 < Fq.2.2.1.length + 1
    · rw [if_pos hx]
      simp (disch := omega) only [s_X0_remember_0, s_X0_remember_1, s_X0_remember_2, s_X0_remember_5, s_X0_remember_8, s_X0_remember_9, s_X0_remember_10, s_X0_remember_13, s_X0_remember_14, s_X0_remember_15, s_X0_remember_16, s_X0_remember_19, s_X0_remember_20, s_X0_remember_21, s_X0_remember_24, s_X0_remember_25, s_X0_remember_26, s_X0_remember_28, s_X0_remember_29, s_X0_remember_32, s_X0_remember_33, s_X0_remember_34, s_X0_remember_37, s_X0_remember_38, s_X0_remember_39, s_X0_remember_41, s_X0_remember_44, s_X0_remember_47, zN_neg1, nL0, nL1, nL2, nL3, nL4, nL5, nL6, nL7, nL8, nL9, nL10, nL11, nL12, nL13, nL14, nL20, nL21, nL22, nL23, nL25, nL32, nL33, nL39, nL40, nL43, nL44, nL99, nL100, nL120, nL216, nL217, nL218, nL219, nL220, nL221, nL500, nL999, nL1000, nL10000, nL100000, sh33, zN_lt, zN_le, zN_eq, zN_ge0, zN_lt0, zN_nm, zN_mn, zN_mlt, zN_ltm, zN_lem, zN_mle, zN_m1, zN_m2, zN_addm, zN_ofNat, zN_beq, zN_add, zN_sub, zN_mul, zN_rem, qT_lt, qF_lt, qT_le, qF_le, qT_eq, qF_eq, ↓reduceIte, and_true, true_and, false_and, and_false, not_true_eq_false, not_false_eq_true, decide_true, decide_false, Bool.true_or, Bool.or_true, Bool.false_or, Bool.or_false, cond_true, cond_false, qAv, qAn, cond_true, Option.bind_some, i1, i2, q1, e1, a2, g1, p1, g3, p2, List.getElem?_cons_zero]
    · rw [if_neg hx]
      simp (disch := omega) only [s_X0_remember_0, s_X0_remember_1, s_X0_remember_2, s_X0_remember_5, s_X0_remember_8, s_X0_remember_9, s_X0_remember_10, s_X0_remember_13, s_X0_remember_14, s_X0_remember_15, s_X0_remember_16, s_X0_remember_19, s_X0_remember_20, s_X0_remember_21, s_X0_remember_24, s_X0_remember_25, s_X0_remember_26, s_X0_remember_28, s_X0_remember_29, s_X0_remember_32, s_X0_remember_33, s_X0_remember_34, s_X0_remember_37, s_X0_remember_38, s_X0_remember_39, s_X0_remember_41, s_X0_remember_44, s_X0_remember_47, zN_neg1, nL0, nL1, nL2, nL3, nL4, nL5, nL6, nL7, nL8, nL9, nL10, nL11, nL12, nL13, nL14, nL20, nL21, nL22, nL23, nL25, nL32, nL33, nL39, nL40, nL43, nL44, nL99, nL100, nL120, nL216, nL217, nL218, nL219, nL220, nL221, nL500, nL999, nL1000, nL10000, nL100000, sh33, zN_lt, zN_le, zN_eq, zN_ge0, zN_lt0, zN_nm, zN_mn, zN_mlt, zN_ltm, zN_lem, zN_mle, zN_m1, zN_m2, zN_addm, zN_ofNat, zN_beq, zN_add, zN_sub, zN_mul, zN_rem, qT_lt, qF_lt, qT_le, qF_le, qT_eq, qF_eq, ↓reduceIte, and_true, true_and, false_and, and_false, not_true_eq_false, not_false_eq_true, decide_true, decide_false, Bool.true_or, Bool.or_true, Bool.false_or, Bool.or_false, cond_true, cond_false, qAv, qAn, cond_true, Option.bind_some, i1, i2, q1, e1, a2, g1, p1, g3, p2, List.getElem?_cons_zero]
end QA

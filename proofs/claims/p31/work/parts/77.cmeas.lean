/-! the pure part: the class's measures -/
def wF (Aq : TA) (iq : Nat) : Nat := (wAll Aq).getD iq 0
def rIn (fz rs : Nat → Nat) (pz : Nat) : Nat → Nat
  | 0 => 1
  | aq + 1 => if fz aq < fz pz then max (rIn fz rs pz aq) (rs aq + 1) else rIn fz rs pz aq
def rA (fz : Nat → Nat) : Nat → Nat → Nat
  | 0 => fun _ => 0
  | pz + 1 => va_up (rA fz pz) pz (rIn fz (rA fz pz) pz pz)
def rLo (fz : Nat → Nat) : Nat → Nat
  | 0 => 0
  | pz + 1 => max (rLo fz pz) (rIn fz (rA fz pz) pz pz)
def cyI (pz : Nat → Nat) : Nat → Nat → Nat → Nat
  | 0, mq, _ => mq
  | dq + 1, mq, pl => if mq.testBit pl = true then mq else cyI pz dq (mq ||| 2 ^ pl) (pz pl)
def cyO (pz : Nat → Nat) (nq : Nat) : Nat → Nat × Nat
  | 0 => (0, 0)
  | sq + 1 => (cyI pz nq (cyO pz nq sq).1 sq, if (cyO pz nq sq).1.testBit sq = true then (cyO pz nq sq).2 else (cyO pz nq sq).2 + 1)
def aRt (Aq : TA) : Nat := qC (fun iq => decide (tE Aq (wF Aq iq) = tE Aq iq)) (tN Aq 1)
def aEx (Aq : TA) : Nat := tN Aq 1 - (cyO (wF Aq) (tN Aq 1) (tN Aq 1)).2
def aTold (Aq : TA) (what : Nat) : Int32 := if what = 0 then zN (tN Aq 1) else if what = 1 then zN (tN Aq 0) else if what = 2 then tT Aq else if what = 3 then zN (tL Aq 1).length else if what = 4 then zN (aCe Aq) else if what = 5 then zN (aCr Aq) else if what = 6 then zN (tL Aq 0).length else if what = 7 then zN (aWr Aq) else if what = 8 then zN (rLo (wF Aq) (tN Aq 1)) else if what = 9 then zN (aRt Aq) else if what = 10 then zN (aEx Aq) else if what = 11 then zN (tN Aq 2) else zN (tN Aq 3)
theorem rIn_le {fz rs : Nat → Nat} {pz bz : Nat} (h : ∀ iq, rs iq ≤ bz) : ∀ aq, rIn fz rs pz aq ≤ bz + 1
  | 0 => by unfold rIn; omega
  | aq + 1 => by
    have h1 := @rIn_le fz rs pz bz h aq
    have h2 := h aq
    unfold rIn; split
    · exact Nat.max_le.mpr ⟨h1, by omega⟩
    · exact h1
theorem rA_le {fz : Nat → Nat} : ∀ pz iq, rA fz pz iq ≤ pz
  | 0, _ => Nat.le_refl _
  | pz + 1, iq => by
    have h1 := @rA_le fz pz
    unfold rA va_up
    split
    · exact rIn_le h1 pz
    · have := h1 iq; omega
theorem rLo_le {fz : Nat → Nat} : ∀ pz, rLo fz pz ≤ pz
  | 0 => Nat.le_refl _
  | pz + 1 => by
    have h1 := @rLo_le fz pz
    have h2 := @rIn_le fz (rA fz pz) pz pz (rA_le pz) pz
    unfold rLo
    exact Nat.max_le.mpr ⟨by omega, h2⟩
theorem cyO_le {pz : Nat → Nat} {nq : Nat} : ∀ sq, (cyO pz nq sq).2 ≤ sq
  | 0 => Nat.le_refl _
  | sq + 1 => by
    have h1 := @cyO_le pz nq sq
    unfold cyO
    dsimp only
    split <;> omega
theorem bt1 : ∀ mq, mq < 1024 → ∀ pl, pl < 10 → (zN mq >>> (zN pl &&& 31)) &&& zN 1 = if mq.testBit pl = true then zN 1 else zN 0 := by decide +kernel
theorem bt2 : ∀ mq, mq < 1024 → ∀ pl, pl < 10 → zN mq ||| (zN 1 <<< (zN pl &&& 31)) = zN (mq ||| 2 ^ pl) := by decide +kernel
theorem bt3 {mq pl : Nat} (h1 : mq < 1024) (h2 : pl < 10) : mq ||| 2 ^ pl < 1024 := by
  have h3 : 2 ^ pl < 2 ^ 10 := Nat.pow_lt_pow_right (by decide) h2
  exact Nat.or_lt_two_pow (n := 10) h1 h3
theorem cyI_lt {pz : Nat → Nat} (hp : ∀ iq, iq < 10 → pz iq < 10) : ∀ dq mq pl, mq < 1024 → pl < 10 → cyI pz dq mq pl < 1024
  | 0, _, _, h, _ => h
  | dq + 1, mq, pl, h, h2 => by
    unfold cyI
    split
    · exact h
    · exact cyI_lt hp dq _ _ (bt3 h h2) (hp pl h2)
theorem cyO_lt {pz : Nat → Nat} {nq : Nat} (hp : ∀ iq, iq < 10 → pz iq < 10) : ∀ sq, sq ≤ 10 → (cyO pz nq sq).1 < 1024
  | 0, _ => (by show 0 < 1024; decide)
  | sq + 1, h => by
    have h1 := @cyO_lt pz nq hp sq (by omega)
    unfold cyO
    exact cyI_lt hp _ _ _ h1 (by omega)
theorem zN_mx {aq bq : Nat} : (if aq < bq then zN bq else zN aq) = zN (max aq bq) := by
  by_cases h : aq < bq
  · rw [if_pos h, Nat.max_eq_right (Nat.le_of_lt h)]
  · rw [if_neg h, Nat.max_eq_left (Nat.le_of_not_lt h)]
section QA
variable {so : Nat → Nat} {g : pwG} {bq me ra : Nat} {xq : Int64} {sc : Nat → Int32} {Rq : Nat → Nat → Int32} {w : pwW} {Aq Bq : TA} {nq sq kq : Nat} {pq : Int32} {fr : Nat → Int32}
theorem wF_lt (hI : invT Aq) (iq : Nat) : wF Aq iq < 10 := by
  have h4 := hI.1
  unfold wF
  rw [List.getD_eq_getElem?_getD]
  cases h : (wAll Aq)[iq]? with
  | none => decide
  | some k9 =>
    have := hI.2.1.2.2 k9 (List.mem_of_getElem? h)
    show k9 < 10
    omega
theorem wF_get (hI : invT Aq) {iq : Nat} (hi : iq < tN Aq 1) : (wAll Aq)[iq]? = some (wF Aq iq) ∧ wF Aq iq < tN Aq 1 := by
  obtain ⟨k9, e1, e2, e3⟩ := w_get hI hi
  have : wF Aq iq = k9 := e3
  rw [this]; exact ⟨e1, e2⟩
theorem rep_wF (hI : invT Aq) (hT : repT Aq xq sc Rq) {iq : Nat} (hi : iq < tN Aq 1) : Rq 11 iq = zN (wF Aq iq) := rep_W hT (wF_get hI hi).1
theorem o_at {nz : Nat} {fz : Nat → Int32} (hra : ra < bq ∨ bq + 15 ≤ ra) (hz : nz ≤ 221) : pwX so 126 0 [some (.ref ra), some (.int pq)] [] g (mkT bq xq sc Rq (mkA ra nz fz w)) = some (.inl (some (.int (qRd nz fz pq))), g, (mkT bq xq sc Rq (mkA ra nz fz w))) :=
  q_at (by rw [mkT_o hra, mkA_s]) (Or.inl rfl) (by omega)
theorem o_put {nz : Nat} {fz : Nat → Int32} {vq : Int32} (hra : ra < bq ∨ bq + 15 ≤ ra) (hz : nz ≤ 221) : pwX so 127 0 [some (.ref ra), some (.int pq), some (.int vq)] [] g (mkT bq xq sc Rq (mkA ra nz fz w)) = some (.inl none, g, (mkT bq xq sc Rq (mkA ra nz (qWr nz fz pq vq) w))) := by
  rw [q_put (nq := nz) (fq := fz) (by rw [mkT_o hra, mkA_s]) (by omega)]
  have h : va_up (mkT bq xq sc Rq (mkA ra nz fz w)) ra (.inl (0, nz, .inl (qWr nz fz pq vq))) = mkT bq xq sc Rq (mkA ra nz (qWr nz fz pq vq) w) := by
    funext jq
    by_cases hj : jq = ra
    · subst hj; rw [va_up_self, mkT_o hra, mkA_s]
    · rw [va_up_ne _ _ hj]
      unfold mkT
      split
      · rfl
      · split
        · rfl
        · split
          · rfl
          · rw [mkA_o hj, mkA_o hj]
  rw [h]
theorem o_get {nz kz : Nat} {fz : Nat → Int32} {αq : Type} {hq : Value → Option αq} {vz : Value} (hme : me < bq ∨ bq + 15 ≤ me) (hne : me ≠ ra) (hg : pwGet w me 1 kz = some vz) : (pwGet (mkT bq xq sc Rq (mkA ra nz fz w)) me 1 kz).bind hq = hq vz := by
  have h1 : pwGet (mkT bq xq sc Rq (mkA ra nz fz w)) me 1 kz = some vz := by
    rw [to_g hme, ← hg]
    unfold pwGet
    rw [mkA_o hne]
  rw [h1]; rfl
theorem c_right4 (hI : invT Aq) (hT : repT Aq xq sc Rq) : ∀ dq iq, iq + dq = tN Aq 1 → pwX so 8 4 [some (.ref me), some (.ref bq), some (.int (zN (qC (fun iq => decide (tE Aq (wF Aq iq) = tE Aq iq)) iq))), some (.int (zN iq))] [] g (mkT bq xq sc Rq w) = some (.inl (some (.int (zN (aRt Aq)))), g, (mkT bq xq sc Rq w)) := by
  have h4 := hI.1
  have hn := hT.1.1.2.2.1
  intro dq
  induction dq with
  | zero =>
    intro iq h1
    have h1 : iq = tN Aq 1 := by omega
    subst h1
    simp (disch := omega) only [s_X1_rightLetters_0, s_X1_rightLetters_1, s_X1_rightLetters_2, s_X1_rightLetters_3, s_X1_rightLetters_4, s_X1_rightLetters_5, s_X1_rightLetters_6, s_X1_rightLetters_9, s_X1_rightLetters_12, s_X1_rightLetters_13, s_X1_rightLetters_14, s_X1_rightLetters_15, s_X1_rightLetters_18, s_X1_rightLetters_21, s_X1_rightLetters_22, s_X1_rightLetters_23, s_X1_rightLetters_26, s_X1_rightLetters_29, s_X1_rightLetters_32, s_X1_rightLetters_35, s_X1_rightLetters_38, s_X1_rightLetters_39, ↓tg0, ↓tg1, ↓tg2, ↓tg3, ↓tg4, ↓tg5, ↓tg6, ↓tg7, ↓tg8, ↓tg9, ↓tg10, ↓tg11, ↓ts0, ↓ts1, ↓ts2, ↓ts3, ↓ts4, ↓ts5, ↓ts6, ↓ts7, ↓tp_x, ↓tp1, ↓tp2, ↓tp3, ↓tp4, ↓tps, mkT_i, mkT_is, cond_true, cond_false, qAv, qAn, qV_vv, q_atT, q_putT, qz4, qz40, qz10, qRd_in, qRd_out, qRd_m, qWr_in, qU_s, qU_n, qV_s, qV_n, zN_neg1, nL0, nL1, nL2, nL3, nL4, nL5, nL6, nL7, nL8, nL9, nL10, nL11, nL12, nL13, nL14, nL20, nL21, nL22, nL23, nL25, nL32, nL33, nL39, nL40, nL43, nL44, nL99, nL100, nL120, nL216, nL217, nL218, nL219, nL220, nL221, nL500, nL999, nL1000, nL10000, nL100000, sh33, zN_lt, zN_le, zN_eq, zN_ge0, zN_lt0, zN_nm, zN_mn, zN_mlt, zN_ltm, zN_lem, zN_mle, zN_m1, zN_m2, zN_addm, zN_ofNat, zN_beq, zN_add, zN_sub, zN_mul, zN_rem, qT_lt, qF_lt, qT_le, qF_le, qT_eq, qF_eq, ↓reduceIte, and_true, true_and, false_and, and_false, not_true_eq_false, not_false_eq_true, decide_true, decide_false, Bool.true_or, Bool.or_true, Bool.false_or, Bool.or_false, cond_true, cond_false, hn, aRt]
  | succ dq ih =>
    intro iq h1
    have h5 := ih (iq + 1) (by omega)
    have e1 := rep_wF hI hT (iq := iq) (by omega)
    have e2 := (wF_get hI (iq := iq) (by omega)).2
    have e3 := (hT.1.2.2 _ e2).1
    have e4 := (hT.1.2.2 iq (by omega)).1
    rw [s_X1_rightLetters_4]
    by_cases h6 : tE Aq (wF Aq iq) = tE Aq iq
    · rw [qC_s (by exact decide_eq_true h6)] at h5
      simp (disch := omega) only [s_X1_rightLetters_0, s_X1_rightLetters_1, s_X1_rightLetters_2, s_X1_rightLetters_3, s_X1_rightLetters_5, s_X1_rightLetters_6, s_X1_rightLetters_9, s_X1_rightLetters_12, s_X1_rightLetters_13, s_X1_rightLetters_14, s_X1_rightLetters_15, s_X1_rightLetters_18, s_X1_rightLetters_21, s_X1_rightLetters_22, s_X1_rightLetters_23, s_X1_rightLetters_26, s_X1_rightLetters_29, s_X1_rightLetters_32, s_X1_rightLetters_35, s_X1_rightLetters_38, s_X1_rightLetters_39, ↓tg0, ↓tg1, ↓tg2, ↓tg3, ↓tg4, ↓tg5, ↓tg6, ↓tg7, ↓tg8, ↓tg9, ↓tg10, ↓tg11, ↓ts0, ↓ts1, ↓ts2, ↓ts3, ↓ts4, ↓ts5, ↓ts6, ↓ts7, ↓tp_x, ↓tp1, ↓tp2, ↓tp3, ↓tp4, ↓tps, mkT_i, mkT_is, cond_true, cond_false, qAv, qAn, qV_vv, q_atT, q_putT, qz4, qz40, qz10, qRd_in, qRd_out, qRd_m, qWr_in, qU_s, qU_n, qV_s, qV_n, zN_neg1, nL0, nL1, nL2, nL3, nL4, nL5, nL6, nL7, nL8, nL9, nL10, nL11, nL12, nL13, nL14, nL20, nL21, nL22, nL23, nL25, nL32, nL33, nL39, nL40, nL43, nL44, nL99, nL100, nL120, nL216, nL217, nL218, nL219, nL220, nL221, nL500, nL999, nL1000, nL10000, nL100000, sh33, zN_lt, zN_le, zN_eq, zN_ge0, zN_lt0, zN_nm, zN_mn, zN_mlt, zN_ltm, zN_lem, zN_mle, zN_m1, zN_m2, zN_addm, zN_ofNat, zN_beq, zN_add, zN_sub, zN_mul, zN_rem, qT_lt, qF_lt, qT_le, qF_le, qT_eq, qF_eq, ↓reduceIte, and_true, true_and, false_and, and_false, not_true_eq_false, not_false_eq_true, decide_true, decide_false, Bool.true_or, Bool.or_true, Bool.false_or, Bool.or_false, cond_true, cond_false, hn, m_walkerAt, m_letterOf, e1, e3, e4, h6]
      exact h5
    · rw [qC_f (by exact decide_eq_false h6)] at h5
      simp (disch := omega) only [s_X1_rightLetters_0, s_X1_rightLetters_1, s_X1_rightLetters_2, s_X1_rightLetters_3, s_X1_rightLetters_5, s_X1_rightLetters_6, s_X1_rightLetters_9, s_X1_rightLetters_12, s_X1_rightLetters_13, s_X1_rightLetters_14, s_X1_rightLetters_15, s_X1_rightLetters_18, s_X1_rightLetters_21, s_X1_rightLetters_22, s_X1_rightLetters_23, s_X1_rightLetters_26, s_X1_rightLetters_29, s_X1_rightLetters_32, s_X1_rightLetters_35, s_X1_rightLetters_38, s_X1_rightLetters_39, ↓tg0, ↓tg1, ↓tg2, ↓tg3, ↓tg4, ↓tg5, ↓tg6, ↓tg7, ↓tg8, ↓tg9, ↓tg10, ↓tg11, ↓ts0, ↓ts1, ↓ts2, ↓ts3, ↓ts4, ↓ts5, ↓ts6, ↓ts7, ↓tp_x, ↓tp1, ↓tp2, ↓tp3, ↓tp4, ↓tps, mkT_i, mkT_is, cond_true, cond_false, qAv, qAn, qV_vv, q_atT, q_putT, qz4, qz40, qz10, qRd_in, qRd_out, qRd_m, qWr_in, qU_s, qU_n, qV_s, qV_n, zN_neg1, nL0, nL1, nL2, nL3, nL4, nL5, nL6, nL7, nL8, nL9, nL10, nL11, nL12, nL13, nL14, nL20, nL21, nL22, nL23, nL25, nL32, nL33, nL39, nL40, nL43, nL44, nL99, nL100, nL120, nL216, nL217, nL218, nL219, nL220, nL221, nL500, nL999, nL1000, nL10000, nL100000, sh33, zN_lt, zN_le, zN_eq, zN_ge0, zN_lt0, zN_nm, zN_mn, zN_mlt, zN_ltm, zN_lem, zN_mle, zN_m1, zN_m2, zN_addm, zN_ofNat, zN_beq, zN_add, zN_sub, zN_mul, zN_rem, qT_lt, qF_lt, qT_le, qF_le, qT_eq, qF_eq, ↓reduceIte, and_true, true_and, false_and, and_false, not_true_eq_false, not_false_eq_true, decide_true, decide_false, Bool.true_or, Bool.or_true, Bool.false_or, Bool.or_false, cond_true, cond_false, hn, m_walkerAt, m_letterOf, e1, e3, e4, h6]
      exact h5
theorem c_right (hI : invT Aq) (hT : repT Aq xq sc Rq) : pwX so 8 0 [some (.ref me), some (.ref bq), none, none] [] g (mkT bq xq sc Rq w) = some (.inl (some (.int (zN (aRt Aq)))), g, (mkT bq xq sc Rq w)) := by
  simp only [s_X1_rightLetters_0, s_X1_rightLetters_1, s_X1_rightLetters_2, s_X1_rightLetters_3, nL0]
  exact c_right4 hI hT (tN Aq 1) 0 (by omega)
theorem c_mend35 (hI : invT Aq) (hT : repT Aq xq sc Rq) {rz st : Int32} : ∀ dq iq mq pl, iq + dq = tN Aq 1 → mq < 1024 → pl < tN Aq 1 → ∃ p5 p6 : Option Value, pwX so 9 35 [some (.ref me), some (.ref bq), some (.int (zN mq)), some (.int rz), some (.int st), some (.int (zN pl)), some (.int (zN iq))] [] g (mkT bq xq sc Rq w) = pwX so 9 7 [some (.ref me), some (.ref bq), some (.int (zN (cyI (wF Aq) dq mq pl))), some (.int rz), some (.int (st + zN 1)), p5, p6] [] g (mkT bq xq sc Rq w) := by
  have h4 := hI.1
  have hn := hT.1.1.2.2.1
  intro dq
  induction dq with
  | zero =>
    intro iq mq pl h1 h2 h3
    have h1 : iq = tN Aq 1 := by omega
    subst h1
    refine ⟨some (.int (zN pl)), some (.int (zN (tN Aq 1))), ?_⟩
    simp (disch := omega) only [s_X1_mendingExchanges_0, s_X1_mendingExchanges_1, s_X1_mendingExchanges_2, s_X1_mendingExchanges_3, s_X1_mendingExchanges_4, s_X1_mendingExchanges_5, s_X1_mendingExchanges_9, s_X1_mendingExchanges_10, s_X1_mendingExchanges_13, s_X1_mendingExchanges_16, s_X1_mendingExchanges_17, s_X1_mendingExchanges_19, s_X1_mendingExchanges_20, s_X1_mendingExchanges_21, s_X1_mendingExchanges_22, s_X1_mendingExchanges_25, s_X1_mendingExchanges_28, s_X1_mendingExchanges_30, s_X1_mendingExchanges_32, s_X1_mendingExchanges_33, s_X1_mendingExchanges_35, s_X1_mendingExchanges_37, s_X1_mendingExchanges_38, s_X1_mendingExchanges_41, s_X1_mendingExchanges_44, s_X1_mendingExchanges_45, s_X1_mendingExchanges_47, s_X1_mendingExchanges_48, s_X1_mendingExchanges_49, s_X1_mendingExchanges_50, s_X1_mendingExchanges_53, s_X1_mendingExchanges_54, s_X1_mendingExchanges_55, s_X1_mendingExchanges_57, s_X1_mendingExchanges_58, s_X1_mendingExchanges_59, s_X1_mendingExchanges_60, s_X1_mendingExchanges_61, s_X1_mendingExchanges_63, s_X1_mendingExchanges_66, s_X1_mendingExchanges_68, s_X1_mendingExchanges_71, s_X1_mendingExchanges_74, s_X1_mendingExchanges_77, s_X1_mendingExchanges_80, s_X1_mendingExchanges_81, s_X1_mendingExchanges_84, s_X1_mendingExchanges_85, s_X1_mendingExchanges_86, ↓tg0, ↓tg1, ↓tg2, ↓tg3, ↓tg4, ↓tg5, ↓tg6, ↓tg7, ↓tg8, ↓tg9, ↓tg10, ↓tg11, ↓ts0, ↓ts1, ↓ts2, ↓ts3, ↓ts4, ↓ts5, ↓ts6, ↓ts7, ↓tp_x, ↓tp1, ↓tp2, ↓tp3, ↓tp4, ↓tps, mkT_i, mkT_is, cond_true, cond_false, qAv, qAn, qV_vv, q_atT, q_putT, qz4, qz40, qz10, qRd_in, qRd_out, qRd_m, qWr_in, qU_s, qU_n, qV_s, qV_n, zN_neg1, nL0, nL1, nL2, nL3, nL4, nL5, nL6, nL7, nL8, nL9, nL10, nL11, nL12, nL13, nL14, nL20, nL21, nL22, nL23, nL25, nL32, nL33, nL39, nL40, nL43, nL44, nL99, nL100, nL120, nL216, nL217, nL218, nL219, nL220, nL221, nL500, nL999, nL1000, nL10000, nL100000, sh33, zN_lt, zN_le, zN_eq, zN_ge0, zN_lt0, zN_nm, zN_mn, zN_mlt, zN_ltm, zN_lem, zN_mle, zN_m1, zN_m2, zN_addm, zN_ofNat, zN_beq, zN_add, zN_sub, zN_mul, zN_rem, qT_lt, qF_lt, qT_le, qF_le, qT_eq, qF_eq, ↓reduceIte, and_true, true_and, false_and, and_false, not_true_eq_false, not_false_eq_true, decide_true, decide_false, Bool.true_or, Bool.or_true, Bool.false_or, Bool.or_false, cond_true, cond_false, hn, cyI]
  | succ dq ih =>
    intro iq mq pl h1 h2 h3
    have e1 := rep_wF hI hT h3
    have e2 := (wF_get hI h3).2
    have b1 := bt1 mq h2 pl (by omega)
    have b2 := bt2 mq h2 pl (by omega)
    rw [s_X1_mendingExchanges_35]
    by_cases h6 : mq.testBit pl = true
    · refine ⟨some (.int (zN pl)), some (.int (zN iq)), ?_⟩
      rw [if_pos h6] at b1
      rw [show cyI (wF Aq) (dq + 1) mq pl = mq from if_pos h6]
      simp (disch := omega) only [s_X1_mendingExchanges_0, s_X1_mendingExchanges_1, s_X1_mendingExchanges_2, s_X1_mendingExchanges_3, s_X1_mendingExchanges_4, s_X1_mendingExchanges_5, s_X1_mendingExchanges_9, s_X1_mendingExchanges_10, s_X1_mendingExchanges_13, s_X1_mendingExchanges_16, s_X1_mendingExchanges_17, s_X1_mendingExchanges_19, s_X1_mendingExchanges_20, s_X1_mendingExchanges_21, s_X1_mendingExchanges_22, s_X1_mendingExchanges_25, s_X1_mendingExchanges_28, s_X1_mendingExchanges_30, s_X1_mendingExchanges_32, s_X1_mendingExchanges_33, s_X1_mendingExchanges_37, s_X1_mendingExchanges_38, s_X1_mendingExchanges_41, s_X1_mendingExchanges_44, s_X1_mendingExchanges_45, s_X1_mendingExchanges_47, s_X1_mendingExchanges_48, s_X1_mendingExchanges_49, s_X1_mendingExchanges_50, s_X1_mendingExchanges_53, s_X1_mendingExchanges_54, s_X1_mendingExchanges_55, s_X1_mendingExchanges_57, s_X1_mendingExchanges_58, s_X1_mendingExchanges_59, s_X1_mendingExchanges_60, s_X1_mendingExchanges_61, s_X1_mendingExchanges_63, s_X1_mendingExchanges_66, s_X1_mendingExchanges_68, s_X1_mendingExchanges_71, s_X1_mendingExchanges_74, s_X1_mendingExchanges_77, s_X1_mendingExchanges_80, s_X1_mendingExchanges_81, s_X1_mendingExchanges_84, s_X1_mendingExchanges_85, s_X1_mendingExchanges_86, ↓tg0, ↓tg1, ↓tg2, ↓tg3, ↓tg4, ↓tg5, ↓tg6, ↓tg7, ↓tg8, ↓tg9, ↓tg10, ↓tg11, ↓ts0, ↓ts1, ↓ts2, ↓ts3, ↓ts4, ↓ts5, ↓ts6, ↓ts7, ↓tp_x, ↓tp1, ↓tp2, ↓tp3, ↓tp4, ↓tps, mkT_i, mkT_is, cond_true, cond_false, qAv, qAn, qV_vv, q_atT, q_putT, qz4, qz40, qz10, qRd_in, qRd_out, qRd_m, qWr_in, qU_s, qU_n, qV_s, qV_n, zN_neg1, nL0, nL1, nL2, nL3, nL4, nL5, nL6, nL7, nL8, nL9, nL10, nL11, nL12, nL13, nL14, nL20, nL21, nL22, nL23, nL25, nL32, nL33, nL39, nL40, nL43, nL44, nL99, nL100, nL120, nL216, nL217, nL218, nL219, nL220, nL221, nL500, nL999, nL1000, nL10000, nL100000, sh33, zN_lt, zN_le, zN_eq, zN_ge0, zN_lt0, zN_nm, zN_mn, zN_mlt, zN_ltm, zN_lem, zN_mle, zN_m1, zN_m2, zN_addm, zN_ofNat, zN_beq, zN_add, zN_sub, zN_mul, zN_rem, qT_lt, qF_lt, qT_le, qF_le, qT_eq, qF_eq, ↓reduceIte, and_true, true_and, false_and, and_false, not_true_eq_false, not_false_eq_true, decide_true, decide_false, Bool.true_or, Bool.or_true, Bool.false_or, Bool.or_false, cond_true, cond_false, hn, b1]
    · obtain ⟨p5, p6, i1⟩ := ih (iq + 1) (mq ||| 2 ^ pl) (wF Aq pl) (by omega) (bt3 h2 (by omega)) e2
      refine ⟨p5, p6, ?_⟩
      rw [if_neg h6] at b1
      rw [show cyI (wF Aq) (dq + 1) mq pl = cyI (wF Aq) dq (mq ||| 2 ^ pl) (wF Aq pl) from if_neg h6, ← i1]
      simp (disch := omega) only [s_X1_mendingExchanges_0, s_X1_mendingExchanges_1, s_X1_mendingExchanges_2, s_X1_mendingExchanges_3, s_X1_mendingExchanges_4, s_X1_mendingExchanges_5, s_X1_mendingExchanges_9, s_X1_mendingExchanges_10, s_X1_mendingExchanges_13, s_X1_mendingExchanges_16, s_X1_mendingExchanges_17, s_X1_mendingExchanges_19, s_X1_mendingExchanges_20, s_X1_mendingExchanges_21, s_X1_mendingExchanges_22, s_X1_mendingExchanges_25, s_X1_mendingExchanges_28, s_X1_mendingExchanges_30, s_X1_mendingExchanges_32, s_X1_mendingExchanges_33, s_X1_mendingExchanges_37, s_X1_mendingExchanges_38, s_X1_mendingExchanges_41, s_X1_mendingExchanges_44, s_X1_mendingExchanges_45, s_X1_mendingExchanges_47, s_X1_mendingExchanges_48, s_X1_mendingExchanges_49, s_X1_mendingExchanges_50, s_X1_mendingExchanges_53, s_X1_mendingExchanges_54, s_X1_mendingExchanges_55, s_X1_mendingExchanges_57, s_X1_mendingExchanges_58, s_X1_mendingExchanges_59, s_X1_mendingExchanges_60, s_X1_mendingExchanges_61, s_X1_mendingExchanges_63, s_X1_mendingExchanges_66, s_X1_mendingExchanges_68, s_X1_mendingExchanges_71, s_X1_mendingExchanges_74, s_X1_mendingExchanges_77, s_X1_mendingExchanges_80, s_X1_mendingExchanges_81, s_X1_mendingExchanges_84, s_X1_mendingExchanges_85, s_X1_mendingExchanges_86, ↓tg0, ↓tg1, ↓tg2, ↓tg3, ↓tg4, ↓tg5, ↓tg6, ↓tg7, ↓tg8, ↓tg9, ↓tg10, ↓tg11, ↓ts0, ↓ts1, ↓ts2, ↓ts3, ↓ts4, ↓ts5, ↓ts6, ↓ts7, ↓tp_x, ↓tp1, ↓tp2, ↓tp3, ↓tp4, ↓tps, mkT_i, mkT_is, cond_true, cond_false, qAv, qAn, qV_vv, q_atT, q_putT, qz4, qz40, qz10, qRd_in, qRd_out, qRd_m, qWr_in, qU_s, qU_n, qV_s, qV_n, zN_neg1, nL0, nL1, nL2, nL3, nL4, nL5, nL6, nL7, nL8, nL9, nL10, nL11, nL12, nL13, nL14, nL20, nL21, nL22, nL23, nL25, nL32, nL33, nL39, nL40, nL43, nL44, nL99, nL100, nL120, nL216, nL217, nL218, nL219, nL220, nL221, nL500, nL999, nL1000, nL10000, nL100000, sh33, zN_lt, zN_le, zN_eq, zN_ge0, zN_lt0, zN_nm, zN_mn, zN_mlt, zN_ltm, zN_lem, zN_mle, zN_m1, zN_m2, zN_addm, zN_ofNat, zN_beq, zN_add, zN_sub, zN_mul, zN_rem, qT_lt, qF_lt, qT_le, qF_le, qT_eq, qF_eq, ↓reduceIte, and_true, true_and, false_and, and_false, not_true_eq_false, not_false_eq_true, decide_true, decide_false, Bool.true_or, Bool.or_true, Bool.false_or, Bool.or_false, cond_true, cond_false, hn, b1, b2, m_walkerAt, e1]
theorem c_mend7 (hI : invT Aq) (hT : repT Aq xq sc Rq) : ∀ dq st (o5 o6 : Option Value), st + dq = tN Aq 1 → pwX so 9 7 [some (.ref me), some (.ref bq), some (.int (zN (cyO (wF Aq) (tN Aq 1) st).1)), some (.int (zN (cyO (wF Aq) (tN Aq 1) st).2)), some (.int (zN st)), o5, o6] [] g (mkT bq xq sc Rq w) = some (.inl (some (.int (zN (aEx Aq)))), g, (mkT bq xq sc Rq w)) := by
  have h4 := hI.1
  have hn := hT.1.1.2.2.1
  intro dq
  induction dq with
  | zero =>
    intro st o5 o6 h1
    have h1 : st = tN Aq 1 := by omega
    subst h1
    have hle := @cyO_le (wF Aq) (tN Aq 1) (tN Aq 1)
    simp (disch := omega) only [s_X1_mendingExchanges_0, s_X1_mendingExchanges_1, s_X1_mendingExchanges_2, s_X1_mendingExchanges_3, s_X1_mendingExchanges_4, s_X1_mendingExchanges_5, s_X1_mendingExchanges_7, s_X1_mendingExchanges_9, s_X1_mendingExchanges_10, s_X1_mendingExchanges_13, s_X1_mendingExchanges_16, s_X1_mendingExchanges_17, s_X1_mendingExchanges_19, s_X1_mendingExchanges_20, s_X1_mendingExchanges_21, s_X1_mendingExchanges_22, s_X1_mendingExchanges_25, s_X1_mendingExchanges_28, s_X1_mendingExchanges_30, s_X1_mendingExchanges_32, s_X1_mendingExchanges_33, s_X1_mendingExchanges_35, s_X1_mendingExchanges_37, s_X1_mendingExchanges_38, s_X1_mendingExchanges_41, s_X1_mendingExchanges_44, s_X1_mendingExchanges_45, s_X1_mendingExchanges_47, s_X1_mendingExchanges_48, s_X1_mendingExchanges_49, s_X1_mendingExchanges_50, s_X1_mendingExchanges_53, s_X1_mendingExchanges_54, s_X1_mendingExchanges_55, s_X1_mendingExchanges_57, s_X1_mendingExchanges_58, s_X1_mendingExchanges_59, s_X1_mendingExchanges_60, s_X1_mendingExchanges_61, s_X1_mendingExchanges_63, s_X1_mendingExchanges_66, s_X1_mendingExchanges_68, s_X1_mendingExchanges_71, s_X1_mendingExchanges_74, s_X1_mendingExchanges_77, s_X1_mendingExchanges_80, s_X1_mendingExchanges_81, s_X1_mendingExchanges_84, s_X1_mendingExchanges_85, s_X1_mendingExchanges_86, ↓tg0, ↓tg1, ↓tg2, ↓tg3, ↓tg4, ↓tg5, ↓tg6, ↓tg7, ↓tg8, ↓tg9, ↓tg10, ↓tg11, ↓ts0, ↓ts1, ↓ts2, ↓ts3, ↓ts4, ↓ts5, ↓ts6, ↓ts7, ↓tp_x, ↓tp1, ↓tp2, ↓tp3, ↓tp4, ↓tps, mkT_i, mkT_is, cond_true, cond_false, qAv, qAn, qV_vv, q_atT, q_putT, qz4, qz40, qz10, qRd_in, qRd_out, qRd_m, qWr_in, qU_s, qU_n, qV_s, qV_n, zN_neg1, nL0, nL1, nL2, nL3, nL4, nL5, nL6, nL7, nL8, nL9, nL10, nL11, nL12, nL13, nL14, nL20, nL21, nL22, nL23, nL25, nL32, nL33, nL39, nL40, nL43, nL44, nL99, nL100, nL120, nL216, nL217, nL218, nL219, nL220, nL221, nL500, nL999, nL1000, nL10000, nL100000, sh33, zN_lt, zN_le, zN_eq, zN_ge0, zN_lt0, zN_nm, zN_mn, zN_mlt, zN_ltm, zN_lem, zN_mle, zN_m1, zN_m2, zN_addm, zN_ofNat, zN_beq, zN_add, zN_sub, zN_mul, zN_rem, qT_lt, qF_lt, qT_le, qF_le, qT_eq, qF_eq, ↓reduceIte, and_true, true_and, false_and, and_false, not_true_eq_false, not_false_eq_true, decide_true, decide_false, Bool.true_or, Bool.or_true, Bool.false_or, Bool.or_false, cond_true, cond_false, hn, aEx]
  | succ dq ih =>
    intro st o5 o6 h1
    have hm := @cyO_lt (wF Aq) (tN Aq 1) (fun iq _ => wF_lt hI iq) st (by omega)
    have b1 := bt1 _ hm st (by omega)
    have key : ∀ (z5 z6 : Option Value) (rz : Nat), rz = (cyO (wF Aq) (tN Aq 1) (st + 1)).2 → pwX so 9 35 [some (.ref me), some (.ref bq), some (.int (zN (cyO (wF Aq) (tN Aq 1) st).1)), some (.int (zN rz)), some (.int (zN st)), some (.int (zN st)), some (.int (zN 0))] [] g (mkT bq xq sc Rq w) = some (.inl (some (.int (zN (aEx Aq)))), g, (mkT bq xq sc Rq w)) := by
      intro z5 z6 rz hr
      obtain ⟨p5, p6, i1⟩ := @c_mend35 so g bq me xq sc Rq w Aq hI hT (zN rz) (zN st) (tN Aq 1) 0 (cyO (wF Aq) (tN Aq 1) st).1 st (by omega) hm (by omega)
      rw [i1, zN_add, hr]
      exact ih (st + 1) p5 p6 (by omega)
    rw [s_X1_mendingExchanges_7]
    by_cases h6 : (cyO (wF Aq) (tN Aq 1) st).1.testBit st = true
    · rw [if_pos h6] at b1
      have := key none none (cyO (wF Aq) (tN Aq 1) st).2 (show _ = (if (cyO (wF Aq) (tN Aq 1) st).1.testBit st = true then (cyO (wF Aq) (tN Aq 1) st).2 else (cyO (wF Aq) (tN Aq 1) st).2 + 1) by rw [if_pos h6])
      simp (disch := omega) only [s_X1_mendingExchanges_9, s_X1_mendingExchanges_10, s_X1_mendingExchanges_13, s_X1_mendingExchanges_16, s_X1_mendingExchanges_17, s_X1_mendingExchanges_19, s_X1_mendingExchanges_20, s_X1_mendingExchanges_21, s_X1_mendingExchanges_22, s_X1_mendingExchanges_25, s_X1_mendingExchanges_28, s_X1_mendingExchanges_30, s_X1_mendingExchanges_32, s_X1_mendingExchanges_33, ↓tg0, ↓tg1, ↓tg2, ↓tg3, ↓tg4, ↓tg5, ↓tg6, ↓tg7, ↓tg8, ↓tg9, ↓tg10, ↓tg11, ↓ts0, ↓ts1, ↓ts2, ↓ts3, ↓ts4, ↓ts5, ↓ts6, ↓ts7, ↓tp_x, ↓tp1, ↓tp2, ↓tp3, ↓tp4, ↓tps, mkT_i, mkT_is, cond_true, cond_false, qAv, qAn, qV_vv, q_atT, q_putT, qz4, qz40, qz10, qRd_in, qRd_out, qRd_m, qWr_in, qU_s, qU_n, qV_s, qV_n, zN_neg1, nL0, nL1, nL2, nL3, nL4, nL5, nL6, nL7, nL8, nL9, nL10, nL11, nL12, nL13, nL14, nL20, nL21, nL22, nL23, nL25, nL32, nL33, nL39, nL40, nL43, nL44, nL99, nL100, nL120, nL216, nL217, nL218, nL219, nL220, nL221, nL500, nL999, nL1000, nL10000, nL100000, sh33, zN_lt, zN_le, zN_eq, zN_ge0, zN_lt0, zN_nm, zN_mn, zN_mlt, zN_ltm, zN_lem, zN_mle, zN_m1, zN_m2, zN_addm, zN_ofNat, zN_beq, zN_add, zN_sub, zN_mul, zN_rem, qT_lt, qF_lt, qT_le, qF_le, qT_eq, qF_eq, ↓reduceIte, and_true, true_and, false_and, and_false, not_true_eq_false, not_false_eq_true, decide_true, decide_false, Bool.true_or, Bool.or_true, Bool.false_or, Bool.or_false, cond_true, cond_false, hn, b1]
      exact this
    · rw [if_neg h6] at b1
      have := key none none ((cyO (wF Aq) (tN Aq 1) st).2 + 1) (show _ = (if (cyO (wF Aq) (tN Aq 1) st).1.testBit st = true then (cyO (wF Aq) (tN Aq 1) st).2 else (cyO (wF Aq) (tN Aq 1) st).2 + 1) by rw [if_neg h6])
      simp (disch := omega) only [s_X1_mendingExchanges_9, s_X1_mendingExchanges_10, s_X1_mendingExchanges_13, s_X1_mendingExchanges_16, s_X1_mendingExchanges_17, s_X1_mendingExchanges_19, s_X1_mendingExchanges_20, s_X1_mendingExchanges_21, s_X1_mendingExchanges_22, s_X1_mendingExchanges_25, s_X1_mendingExchanges_28, s_X1_mendingExchanges_30, s_X1_mendingExchanges_32, s_X1_mendingExchanges_33, ↓tg0, ↓tg1, ↓tg2, ↓tg3, ↓tg4, ↓tg5, ↓tg6, ↓tg7, ↓tg8, ↓tg9, ↓tg10, ↓tg11, ↓ts0, ↓ts1, ↓ts2, ↓ts3, ↓ts4, ↓ts5, ↓ts6, ↓ts7, ↓tp_x, ↓tp1, ↓tp2, ↓tp3, ↓tp4, ↓tps, mkT_i, mkT_is, cond_true, cond_false, qAv, qAn, qV_vv, q_atT, q_putT, qz4, qz40, qz10, qRd_in, qRd_out, qRd_m, qWr_in, qU_s, qU_n, qV_s, qV_n, zN_neg1, nL0, nL1, nL2, nL3, nL4, nL5, nL6, nL7, nL8, nL9, nL10, nL11, nL12, nL13, nL14, nL20, nL21, nL22, nL23, nL25, nL32, nL33, nL39, nL40, nL43, nL44, nL99, nL100, nL120, nL216, nL217, nL218, nL219, nL220, nL221, nL500, nL999, nL1000, nL10000, nL100000, sh33, zN_lt, zN_le, zN_eq, zN_ge0, zN_lt0, zN_nm, zN_mn, zN_mlt, zN_ltm, zN_lem, zN_mle, zN_m1, zN_m2, zN_addm, zN_ofNat, zN_beq, zN_add, zN_sub, zN_mul, zN_rem, qT_lt, qF_lt, qT_le, qF_le, qT_eq, qF_eq, ↓reduceIte, and_true, true_and, false_and, and_false, not_true_eq_false, not_false_eq_true, decide_true, decide_false, Bool.true_or, Bool.or_true, Bool.false_or, Bool.or_false, cond_true, cond_false, hn, b1]
      exact this
theorem c_mend (hI : invT Aq) (hT : repT Aq xq sc Rq) : pwX so 9 0 [some (.ref me), some (.ref bq), none, none, none, none, none] [] g (mkT bq xq sc Rq w) = some (.inl (some (.int (zN (aEx Aq)))), g, (mkT bq xq sc Rq w)) := by
  simp only [s_X1_mendingExchanges_0, s_X1_mendingExchanges_1, s_X1_mendingExchanges_2, s_X1_mendingExchanges_3, s_X1_mendingExchanges_4, s_X1_mendingExchanges_5, nL0]
  exact @c_mend7 so g bq me xq sc Rq w Aq hI hT (tN Aq 1) 0 none none (by omega)
theorem c_rise18 (hI : invT Aq) (hT : repT Aq xq sc Rq) (hme : me < bq ∨ bq + 15 ≤ me) (hra : ra < bq ∨ bq + 15 ≤ ra) (hne : me ≠ ra) (hg : pwGet w me 1 0 = some (.ref ra)) {lo pz : Nat} (hp : pz < tN Aq 1) (hf : ∀ iq, iq < pz → fr iq = zN (rA (wF Aq) pz iq)) : ∀ dq aq, aq + dq = pz → pwX so 7 18 [some (.ref me), some (.ref bq), some (.int (zN lo)), some (.int (zN pz)), some (.int (zN (rIn (wF Aq) (rA (wF Aq) pz) pz aq))), some (.int (zN aq))] [] g (mkT bq xq sc Rq (mkA ra 10 fr w)) = pwX so 7 18 [some (.ref me), some (.ref bq), some (.int (zN lo)), some (.int (zN pz)), some (.int (zN (rIn (wF Aq) (rA (wF Aq) pz) pz pz))), some (.int (zN pz))] [] g (mkT bq xq sc Rq (mkA ra 10 fr w)) := by
  have h4 := hI.1
  have hn := hT.1.1.2.2.1
  intro dq
  induction dq with
  | zero =>
    intro aq h1
    have h1 : aq = pz := by omega
    subst h1
    rfl
  | succ dq ih =>
    intro aq h1
    rw [← ih (aq + 1) (by omega)]
    have hb1 := @rIn_le (wF Aq) (rA (wF Aq) pz) pz pz (rA_le pz) aq
    have hb2 := @rA_le (wF Aq) pz aq
    have e1 := rep_wF hI hT (iq := aq) (by omega)
    have e2 := rep_wF hI hT (iq := pz) (by omega)
    have w1 := wF_lt hI aq
    have w2 := wF_lt hI pz
    have h5 := hf aq (by omega)
    conv => lhs; rw [s_X1_longestRise_18]
    by_cases h6 : wF Aq aq < wF Aq pz
    · rw [show rIn (wF Aq) (rA (wF Aq) pz) pz (aq + 1) = max (rIn (wF Aq) (rA (wF Aq) pz) pz aq) (rA (wF Aq) pz aq + 1) from if_pos h6]
      simp (disch := omega) only [s_X1_longestRise_0, s_X1_longestRise_1, s_X1_longestRise_2, s_X1_longestRise_3, s_X1_longestRise_4, s_X1_longestRise_5, s_X1_longestRise_6, s_X1_longestRise_9, s_X1_longestRise_12, s_X1_longestRise_13, s_X1_longestRise_15, s_X1_longestRise_16, s_X1_longestRise_20, s_X1_longestRise_21, s_X1_longestRise_24, s_X1_longestRise_25, s_X1_longestRise_27, s_X1_longestRise_30, s_X1_longestRise_31, s_X1_longestRise_32, s_X1_longestRise_35, s_X1_longestRise_38, s_X1_longestRise_40, s_X1_longestRise_41, s_X1_longestRise_44, s_X1_longestRise_46, s_X1_longestRise_49, s_X1_longestRise_50, s_X1_longestRise_51, s_X1_longestRise_54, s_X1_longestRise_56, s_X1_longestRise_59, s_X1_longestRise_62, s_X1_longestRise_63, s_X1_longestRise_66, s_X1_longestRise_67, s_X1_longestRise_69, s_X1_longestRise_72, s_X1_longestRise_73, s_X1_longestRise_75, s_X1_longestRise_78, s_X1_longestRise_79, s_X1_longestRise_82, s_X1_longestRise_85, s_X1_longestRise_86, ↓tg0, ↓tg1, ↓tg2, ↓tg3, ↓tg4, ↓tg5, ↓tg6, ↓tg7, ↓tg8, ↓tg9, ↓tg10, ↓tg11, ↓ts0, ↓ts1, ↓ts2, ↓ts3, ↓ts4, ↓ts5, ↓ts6, ↓ts7, ↓tp_x, ↓tp1, ↓tp2, ↓tp3, ↓tp4, ↓tps, mkT_i, mkT_is, cond_true, cond_false, qAv, qAn, qV_vv, q_atT, q_putT, qz4, qz40, qz10, qRd_in, qRd_out, qRd_m, qWr_in, qU_s, qU_n, qV_s, qV_n, zN_neg1, nL0, nL1, nL2, nL3, nL4, nL5, nL6, nL7, nL8, nL9, nL10, nL11, nL12, nL13, nL14, nL20, nL21, nL22, nL23, nL25, nL32, nL33, nL39, nL40, nL43, nL44, nL99, nL100, nL120, nL216, nL217, nL218, nL219, nL220, nL221, nL500, nL999, nL1000, nL10000, nL100000, sh33, zN_lt, zN_le, zN_eq, zN_ge0, zN_lt0, zN_nm, zN_mn, zN_mlt, zN_ltm, zN_lem, zN_mle, zN_m1, zN_m2, zN_addm, zN_ofNat, zN_beq, zN_add, zN_sub, zN_mul, zN_rem, qT_lt, qF_lt, qT_le, qF_le, hn, m_walkerAt, e1, e2, ↓o_get (hme := hme) (hne := hne) (hg := hg), o_at hra, h5, if_true, if_false]
      rw [zN_mx]
    · rw [show rIn (wF Aq) (rA (wF Aq) pz) pz (aq + 1) = rIn (wF Aq) (rA (wF Aq) pz) pz aq from if_neg h6]
      simp (disch := omega) only [s_X1_longestRise_0, s_X1_longestRise_1, s_X1_longestRise_2, s_X1_longestRise_3, s_X1_longestRise_4, s_X1_longestRise_5, s_X1_longestRise_6, s_X1_longestRise_9, s_X1_longestRise_12, s_X1_longestRise_13, s_X1_longestRise_15, s_X1_longestRise_16, s_X1_longestRise_20, s_X1_longestRise_21, s_X1_longestRise_24, s_X1_longestRise_25, s_X1_longestRise_27, s_X1_longestRise_30, s_X1_longestRise_31, s_X1_longestRise_32, s_X1_longestRise_35, s_X1_longestRise_38, s_X1_longestRise_40, s_X1_longestRise_41, s_X1_longestRise_44, s_X1_longestRise_46, s_X1_longestRise_49, s_X1_longestRise_50, s_X1_longestRise_51, s_X1_longestRise_54, s_X1_longestRise_56, s_X1_longestRise_59, s_X1_longestRise_62, s_X1_longestRise_63, s_X1_longestRise_66, s_X1_longestRise_67, s_X1_longestRise_69, s_X1_longestRise_72, s_X1_longestRise_73, s_X1_longestRise_75, s_X1_longestRise_78, s_X1_longestRise_79, s_X1_longestRise_82, s_X1_longestRise_85, s_X1_longestRise_86, ↓tg0, ↓tg1, ↓tg2, ↓tg3, ↓tg4, ↓tg5, ↓tg6, ↓tg7, ↓tg8, ↓tg9, ↓tg10, ↓tg11, ↓ts0, ↓ts1, ↓ts2, ↓ts3, ↓ts4, ↓ts5, ↓ts6, ↓ts7, ↓tp_x, ↓tp1, ↓tp2, ↓tp3, ↓tp4, ↓tps, mkT_i, mkT_is, cond_true, cond_false, qAv, qAn, qV_vv, q_atT, q_putT, qz4, qz40, qz10, qRd_in, qRd_out, qRd_m, qWr_in, qU_s, qU_n, qV_s, qV_n, zN_neg1, nL0, nL1, nL2, nL3, nL4, nL5, nL6, nL7, nL8, nL9, nL10, nL11, nL12, nL13, nL14, nL20, nL21, nL22, nL23, nL25, nL32, nL33, nL39, nL40, nL43, nL44, nL99, nL100, nL120, nL216, nL217, nL218, nL219, nL220, nL221, nL500, nL999, nL1000, nL10000, nL100000, sh33, zN_lt, zN_le, zN_eq, zN_ge0, zN_lt0, zN_nm, zN_mn, zN_mlt, zN_ltm, zN_lem, zN_mle, zN_m1, zN_m2, zN_addm, zN_ofNat, zN_beq, zN_add, zN_sub, zN_mul, zN_rem, qT_lt, qF_lt, qT_le, qF_le, hn, m_walkerAt, e1, e2, if_true, if_false]
end QA

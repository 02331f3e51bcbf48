/-! the pure part: a town becomes another; many ticks of the class -/
section QA
variable {so : Nat → Nat} {g : pwG} {bq b2 : Nat} {xq x2 : Int64} {sc s2 : Nat → Int32} {Rq R2 : Nat → Nat → Int32} {w : pwW} {Aq Bq : TA} {αq : Type} {kz : Value → Option αq} {vq : Int32}
theorem to_g {aq ci kq : Nat} (h : aq < bq ∨ bq + 15 ≤ aq) : pwGet (mkT bq xq sc Rq w) aq ci kq = pwGet w aq ci kq := by unfold pwGet; rw [mkT_o h]
theorem to_i {aq ci : Nat} (h : aq < bq ∨ bq + 15 ≤ aq) : pwIsC (mkT bq xq sc Rq w) aq ci = pwIsC w aq ci := by unfold pwIsC; rw [mkT_o h]
theorem to_l {aq : Nat} (h : aq < bq ∨ bq + 15 ≤ aq) : pwLen (mkT bq xq sc Rq w) aq = pwLen w aq := by unfold pwLen; rw [mkT_o h]
theorem tl_r {jq : Nat} (h1 : 2 ≤ jq) (h2 : jq < 15) : pwLen (mkT bq xq sc Rq w) (bq + jq) = some (qSz jq) := qLen (mkT_r h1 h2) (Or.inl rfl)
theorem qSz_le {jq : Nat} : qSz jq ≤ 40 := by unfold qSz; split; decide; split <;> decide
def cpR (R2 Rq : Nat → Nat → Int32) (jq : Nat) : Nat → Int32 := fun iq => if iq < qSz jq then R2 jq iq else Rq jq iq
/-- copyRow from a row of the other town to the same row of this one -/
theorem m_copyRow {jq : Nat} (h1 : 2 ≤ jq) (h2 : jq < 15) (hd : b2 + 15 ≤ bq ∨ bq + 15 ≤ b2) : pwX so 128 0 [some (.ref (b2 + jq)), some (.ref (bq + jq))] [] g (mkT bq xq sc Rq (mkT b2 x2 s2 R2 w)) = some (.inl none, g, (mkT bq xq sc (va_up Rq jq (cpR R2 Rq jq)) (mkT b2 x2 s2 R2 w))) := by
  have hz := @qSz_le jq
  have e1 : pwLen (mkT bq xq sc Rq (mkT b2 x2 s2 R2 w)) (b2 + jq) = some (qSz jq) := by rw [to_l (by omega), tl_r h1 h2]
  have e2 : pwLen (mkT bq xq sc Rq (mkT b2 x2 s2 R2 w)) (bq + jq) = some (qSz jq) := tl_r h1 h2
  have e3 : pwCpy (mkT bq xq sc Rq (mkT b2 x2 s2 R2 w)) (b2 + jq) (zN 0) (bq + jq) (zN 0) (zN (qSz jq)) = some (mkT bq xq sc (va_up Rq jq (cpR R2 Rq jq)) (mkT b2 x2 s2 R2 w)) := by
    unfold pwCpy
    rw [mkT_r h1 h2, mkT_o (by omega), mkT_r h1 h2]
    dsimp only
    rw [zN_nat (by decide), zN_nat (by omega), if_pos ⟨⟨rfl, rfl⟩, ⟨Int32.le_refl _, Int32.le_refl _, of_eq_true (zN_ge0 (by omega))⟩, by omega, by omega⟩, mkT_w h1 h2]
    congr 3
    funext iq
    unfold va_cpy cpR
    by_cases h : iq < qSz jq
    · rw [if_pos ⟨Nat.zero_le _, by omega⟩, if_pos h, Nat.zero_add, Nat.sub_zero]
    · rw [if_neg (by omega), if_neg h]
  have e4 : (if zN (qSz jq) < zN (qSz jq) then zN (qSz jq) else zN (qSz jq)) = zN (qSz jq) := by split <;> rfl
  simp (disch := omega) only [s_X7_copyRow_0, s_X7_copyRow_1, s_X7_copyRow_2, s_X7_copyRow_3, s_X7_copyRow_4, s_X7_copyRow_5, s_X7_copyRow_6, s_X7_copyRow_7, s_X7_copyRow_8, s_X7_copyRow_11, s_X7_copyRow_14, zN_neg1, nL0, nL1, nL2, nL3, nL4, nL5, nL6, nL7, nL8, nL9, nL10, nL11, nL12, nL13, nL14, nL20, nL21, nL22, nL23, nL25, nL32, nL33, nL39, nL40, nL43, nL44, nL99, nL100, nL120, nL216, nL217, nL218, nL219, nL220, nL221, nL500, nL999, nL1000, nL10000, nL100000, e1, e2, Option.bind_some, zN_ofNat, e4, e3]
theorem ob0 (hd : b2 + 15 ≤ bq ∨ bq + 15 ≤ b2) {hq : Value → Option αq} {jq : Nat} : (pwGet (mkT bq xq sc Rq (mkT b2 x2 s2 R2 w)) b2 4 jq).bind hq = (pwGet (mkT b2 x2 s2 R2 w) b2 4 jq).bind hq := by rw [to_g (by omega)]
theorem ob1 (hd : b2 + 15 ≤ bq ∨ bq + 15 ≤ b2) {hq : Value → Option αq} {jq : Nat} : (pwGet (mkT bq xq sc Rq (mkT b2 x2 s2 R2 w)) (b2 + 1) 3 jq).bind hq = (pwGet (mkT b2 x2 s2 R2 w) (b2 + 1) 3 jq).bind hq := by rw [to_g (by omega)]
theorem m_becomeS (hd : b2 + 15 ≤ bq ∨ bq + 15 ≤ b2) : pwX so 20 0 [some (.ref (bq + 1)), some (.ref (b2 + 1))] [] g (mkT bq xq sc Rq (mkT b2 x2 s2 R2 w)) = some (.inl none, g, (mkT bq xq (upd sc 0 (s2 0)) (va_up (va_up (va_up (va_up (va_up (va_up (va_up Rq 2 (cpR R2 Rq 2)) 3 (cpR R2 Rq 3)) 4 (cpR R2 Rq 4)) 5 (cpR R2 Rq 5)) 6 (cpR R2 Rq 6)) 7 (cpR R2 Rq 7)) 8 (cpR R2 Rq 8)) (mkT b2 x2 s2 R2 w))) := by
  have hc := fun (Rz : Nat → Nat → Int32) (jq : Nat) (h1 : 2 ≤ jq) (h2 : jq < 15) => @m_copyRow so g bq b2 xq x2 (upd sc 0 (s2 0)) s2 Rz R2 w jq h1 h2 hd
  have hu : ∀ (Rz : Nat → Nat → Int32) (ka kb : Nat) (fz : Nat → Int32), ka < kb → cpR R2 (va_up Rz ka fz) kb = cpR R2 Rz kb := fun Rz ka kb fz h => by
    funext iq; unfold cpR; rw [qV_n (by omega)]
  simp (disch := omega) only [s_X4_become_0, s_X4_become_1, s_X4_become_2, s_X4_become_5, s_X4_become_8, s_X4_become_9, s_X4_become_12, s_X4_become_13, s_X4_become_16, s_X4_become_19, s_X4_become_20, s_X4_become_23, s_X4_become_24, s_X4_become_27, s_X4_become_30, s_X4_become_31, s_X4_become_34, s_X4_become_35, s_X4_become_38, s_X4_become_41, s_X4_become_42, s_X4_become_45, s_X4_become_46, s_X4_become_49, s_X4_become_52, s_X4_become_53, s_X4_become_56, s_X4_become_57, s_X4_become_60, s_X4_become_63, s_X4_become_64, s_X4_become_67, s_X4_become_68, s_X4_become_71, s_X4_become_74, s_X4_become_75, s_X4_become_78, s_X4_become_79, s_X4_become_82, s_X4_become_85, ↓tg0, ↓tg1, ↓tg2, ↓tg3, ↓tg4, ↓tg5, ↓tg6, ↓tg7, ↓tg8, ↓tg9, ↓tg10, ↓tg11, ↓ts0, ↓ts1, ↓ts2, ↓ts3, ↓ts4, ↓ts5, ↓ts6, ↓ts7, ↓tp_x, ↓tp1, ↓tp2, ↓tp3, ↓tp4, ↓tps, mkT_i, mkT_is, cond_true, cond_false, qAv, qAn, ↓ob1, hc, hu]
theorem m_become (hd : b2 + 15 ≤ bq ∨ bq + 15 ≤ b2) : pwX so 39 0 [some (.ref bq), some (.ref b2)] [] g (mkT bq xq sc Rq (mkT b2 x2 s2 R2 w)) = some (.inl none, g, (mkT bq x2 (upd (upd (upd (upd (upd sc 0 (s2 0)) 1 (s2 1)) 2 (s2 2)) 3 (s2 3)) 4 (s2 4)) (va_up (va_up (va_up (va_up (va_up (va_up (va_up (va_up (va_up (va_up (va_up (va_up (va_up Rq 2 (cpR R2 Rq 2)) 3 (cpR R2 Rq 3)) 4 (cpR R2 Rq 4)) 5 (cpR R2 Rq 5)) 6 (cpR R2 Rq 6)) 7 (cpR R2 Rq 7)) 8 (cpR R2 Rq 8)) 9 (cpR R2 Rq 9)) 10 (cpR R2 Rq 10)) 11 (cpR R2 Rq 11)) 12 (cpR R2 Rq 12)) 13 (cpR R2 Rq 13)) 14 (cpR R2 Rq 14)) (mkT b2 x2 s2 R2 w))) := by
  have hs := @m_becomeS so g bq b2 xq x2 sc s2 Rq R2 w hd
  have hc := fun (xz : Int64) (sz : Nat → Int32) (Rz : Nat → Nat → Int32) (jq : Nat) (h1 : 2 ≤ jq) (h2 : jq < 15) => @m_copyRow so g bq b2 xz x2 sz s2 Rz R2 w jq h1 h2 hd
  have hu : ∀ (Rz : Nat → Nat → Int32) (ka kb : Nat) (fz : Nat → Int32), ka < kb → cpR R2 (va_up Rz ka fz) kb = cpR R2 Rz kb := fun Rz ka kb fz h => by
    funext iq; unfold cpR; rw [qV_n (by omega)]
  simp (disch := omega) only [s_X5_become_0, s_X5_become_1, s_X5_become_4, s_X5_become_5, s_X5_become_8, s_X5_become_11, s_X5_become_12, s_X5_become_13, s_X5_become_16, s_X5_become_19, s_X5_become_20, s_X5_become_21, s_X5_become_24, s_X5_become_27, s_X5_become_28, s_X5_become_29, s_X5_become_32, s_X5_become_35, s_X5_become_36, s_X5_become_37, s_X5_become_40, s_X5_become_43, s_X5_become_44, s_X5_become_45, s_X5_become_48, s_X5_become_51, s_X5_become_52, s_X5_become_55, s_X5_become_56, s_X5_become_59, s_X5_become_62, s_X5_become_63, s_X5_become_66, s_X5_become_67, s_X5_become_70, s_X5_become_73, s_X5_become_74, s_X5_become_77, s_X5_become_78, s_X5_become_81, s_X5_become_84, s_X5_become_85, s_X5_become_88, s_X5_become_89, s_X5_become_92, s_X5_become_95, s_X5_become_96, s_X5_become_99, s_X5_become_100, s_X5_become_103, s_X5_become_106, s_X5_become_107, s_X5_become_110, s_X5_become_111, s_X5_become_114, s_X5_become_117, ↓tg0, ↓tg1, ↓tg2, ↓tg3, ↓tg4, ↓tg5, ↓tg6, ↓tg7, ↓tg8, ↓tg9, ↓tg10, ↓tg11, ↓ts0, ↓ts1, ↓ts2, ↓ts3, ↓ts4, ↓ts5, ↓ts6, ↓ts7, ↓tp_x, ↓tp1, ↓tp2, ↓tp3, ↓tp4, ↓tps, mkT_i, mkT_is, cond_true, cond_false, qAv, qAn, ↓ob0, hs, hc, hu]
theorem repT_cong {sa : Nat → Int32} {Ra : Nat → Nat → Int32} (hI : invT Aq) (hT : repT Aq x2 s2 R2) (h0 : ∀ jq, jq < 5 → sa jq = s2 jq) (hR : ∀ jq, 2 ≤ jq → jq < 15 → ∀ iq, iq < qSz jq → Ra jq iq = R2 jq iq) : repT Aq x2 sa Ra := by
  have h4 := hI.1
  obtain ⟨⟨⟨n1, n2, n3, n4, n5, n6⟩, n7, n8⟩, r⟩ := hT
  refine ⟨⟨⟨n1, by rw [h0 0 (by omega)]; exact n2, by rw [h0 1 (by omega)]; exact n3, by rw [h0 2 (by omega)]; exact n4, by rw [h0 3 (by omega)]; exact n5, by rw [h0 4 (by omega)]; exact n6⟩, fun sq hs => ?_, fun k9 hk => ?_⟩, ?_⟩
  · obtain ⟨a1, a2, a3, a4, a5, a6, a7⟩ := n7 sq hs
    have hrd := (rd_le hI hs).1
    have z4 : ∀ jq, jq ≤ 7 → sq < qSz jq := fun jq hj => by rw [qz4 hj]; omega
    refine ⟨by rw [hR 2 (by omega) (by omega) sq (z4 2 (by omega))]; exact a1, by rw [hR 3 (by omega) (by omega) sq (z4 3 (by omega))]; exact a2, by rw [hR 4 (by omega) (by omega) sq (z4 4 (by omega))]; exact a3, by rw [hR 5 (by omega) (by omega) sq (z4 5 (by omega))]; exact a4, by rw [hR 6 (by omega) (by omega) sq (z4 6 (by omega))]; exact a5, by rw [hR 7 (by omega) (by omega) sq (z4 7 (by omega))]; exact a6, fun iq kq hh => ?_⟩
    have hi := (List.getElem?_eq_some_iff.mp hh).1
    rw [hR 8 (by omega) (by omega) _ (by show sq * 10 + iq < 40; omega)]
    exact a7 iq kq hh
  · rw [hR 9 (by omega) (by omega) _ (by show k9 < 10; omega), hR 10 (by omega) (by omega) _ (by show k9 < 10; omega)]
    exact n8 k9 hk
  · refine repAt_eq r fun iq a c => ?_
    rw [fAll_len, hI.2.1.1] at c
    have hi : iq < 10 := by omega
    exact ⟨hR 11 (by omega) (by omega) _ hi, hR 12 (by omega) (by omega) _ hi, hR 13 (by omega) (by omega) _ hi, hR 14 (by omega) (by omega) _ hi⟩
theorem cpR_s {jq iq : Nat} (h : iq < qSz jq) : cpR R2 Rq jq iq = R2 jq iq := if_pos h
theorem c_become (hd : b2 + 15 ≤ bq ∨ bq + 15 ≤ b2) (hI : invT Aq) (hT : repT Aq x2 s2 R2) : ∃ sa Ra, repT Aq x2 sa Ra ∧ pwX so 39 0 [some (.ref bq), some (.ref b2)] [] g (mkT bq xq sc Rq (mkT b2 x2 s2 R2 w)) = some (.inl none, g, (mkT bq x2 sa Ra (mkT b2 x2 s2 R2 w))) := by
  refine ⟨_, _, ?_, m_become hd⟩
  refine repT_cong hI hT (fun jq hj => ?_) (fun jq h1 h2 iq hi => ?_)
  · have h9 : jq = 0 ∨ jq = 1 ∨ jq = 2 ∨ jq = 3 ∨ jq = 4 := by omega
    rcases h9 with rfl | rfl | rfl | rfl | rfl <;> simp (disch := omega) only [qU_s, qU_n]
  · have h9 : jq = 2 ∨ jq = 3 ∨ jq = 4 ∨ jq = 5 ∨ jq = 6 ∨ jq = 7 ∨ jq = 8 ∨ jq = 9 ∨ jq = 10 ∨ jq = 11 ∨ jq = 12 ∨ jq = 13 ∨ jq = 14 := by omega
    rcases h9 with rfl | rfl | rfl | rfl | rfl | rfl | rfl | rfl | rfl | rfl | rfl | rfl | rfl <;> simp (disch := omega) only [qV_s, qV_n] <;> exact cpR_s hi
theorem c_makeNew : repT tNew 1 (upd (upd (upd (upd (upd sc 0 (zN 0)) 1 (zN 0)) 2 (zN 0)) 3 (zN 0)) 4 (zN 0)) Rq := by
  refine ⟨⟨⟨rfl, ?_, ?_, ?_, ?_, ?_⟩, fun sq hs => absurd hs (Nat.not_lt_zero _), fun k9 hk => absurd hk (Nat.not_lt_zero _)⟩, repAt_nil⟩ <;> simp (disch := omega) only [qU_s, qU_n] <;> rfl
theorem c_ticks11 {nq : Nat} (hn : nq < 2147483648) : ∀ dq iq (Aq : TA) (xq : Int64) (sc : Nat → Int32) (Rq : Nat → Nat → Int32), iq + dq = nq → invT Aq → repT Aq xq sc Rq → ∃ x1 sc1 R1, repT (tTicks dq Aq) x1 sc1 R1 ∧ pwX so 68 11 [some (.ref bq), some (.int (zN nq)), some (.int (zN iq))] [] g (mkT bq xq sc Rq w) = some (.inl (some (.int (zN 1))), g, (mkT bq x1 sc1 R1 w)) := by
  intro dq
  induction dq with
  | zero =>
    intro iq Aq xq sc Rq h1 hI hT
    have h1 : iq = nq := by omega
    subst h1
    refine ⟨xq, sc, Rq, hT, ?_⟩
    simp (disch := omega) only [s_X5_triesTicks_0, s_X5_triesTicks_1, s_X5_triesTicks_4, s_X5_triesTicks_7, s_X5_triesTicks_8, s_X5_triesTicks_9, s_X5_triesTicks_10, s_X5_triesTicks_11, s_X5_triesTicks_12, s_X5_triesTicks_13, s_X5_triesTicks_16, s_X5_triesTicks_17, s_X5_triesTicks_20, s_X5_triesTicks_23, s_X5_triesTicks_26, s_X5_triesTicks_27, ↓tg0, ↓tg1, ↓tg2, ↓tg3, ↓tg4, ↓tg5, ↓tg6, ↓tg7, ↓tg8, ↓tg9, ↓tg10, ↓tg11, ↓ts0, ↓ts1, ↓ts2, ↓ts3, ↓ts4, ↓ts5, ↓ts6, ↓ts7, ↓tp_x, ↓tp1, ↓tp2, ↓tp3, ↓tp4, ↓tps, mkT_i, mkT_is, cond_true, cond_false, qAv, qAn, qV_vv, q_atT, q_putT, qz4, qz40, qz10, qRd_in, qRd_out, qRd_m, qWr_in, qU_s, qU_n, qV_s, qV_n, zN_neg1, nL0, nL1, nL2, nL3, nL4, nL5, nL6, nL7, nL8, nL9, nL10, nL11, nL12, nL13, nL14, nL20, nL21, nL22, nL23, nL25, nL32, nL33, nL39, nL40, nL43, nL44, nL99, nL100, nL120, nL216, nL217, nL218, nL219, nL220, nL221, nL500, nL999, nL1000, nL10000, nL100000, sh33, zN_lt, zN_le, zN_eq, zN_ge0, zN_lt0, zN_nm, zN_mn, zN_mlt, zN_ltm, zN_lem, zN_mle, zN_m1, zN_m2, zN_addm, zN_ofNat, zN_beq, zN_add, zN_sub, zN_mul, zN_rem, qT_lt, qF_lt, qT_le, qF_le, qT_eq, qF_eq, ↓reduceIte, and_true, true_and, false_and, and_false, not_true_eq_false, not_false_eq_true, decide_true, decide_false, Bool.true_or, Bool.or_true, Bool.false_or, Bool.or_false, cond_true, cond_false, qbi, qb1, qb0]
  | succ dq ih =>
    intro iq Aq xq sc Rq h1 hI hT
    obtain ⟨x1, sc1, R1, a1, a2⟩ := @c_tick so g bq xq sc Rq w Aq hI hT
    obtain ⟨x3, sc3, R3, b1, b2⟩ := ih (iq + 1) (tTick Aq) x1 sc1 R1 (by omega) (inv_Tick hI) a1
    refine ⟨x3, sc3, R3, b1, ?_⟩
    rw [s_X5_triesTicks_11]
    simp (disch := omega) only [s_X5_triesTicks_0, s_X5_triesTicks_1, s_X5_triesTicks_4, s_X5_triesTicks_7, s_X5_triesTicks_8, s_X5_triesTicks_9, s_X5_triesTicks_10, s_X5_triesTicks_12, s_X5_triesTicks_13, s_X5_triesTicks_16, s_X5_triesTicks_17, s_X5_triesTicks_20, s_X5_triesTicks_23, s_X5_triesTicks_26, s_X5_triesTicks_27, ↓tg0, ↓tg1, ↓tg2, ↓tg3, ↓tg4, ↓tg5, ↓tg6, ↓tg7, ↓tg8, ↓tg9, ↓tg10, ↓tg11, ↓ts0, ↓ts1, ↓ts2, ↓ts3, ↓ts4, ↓ts5, ↓ts6, ↓ts7, ↓tp_x, ↓tp1, ↓tp2, ↓tp3, ↓tp4, ↓tps, mkT_i, mkT_is, cond_true, cond_false, qAv, qAn, qV_vv, q_atT, q_putT, qz4, qz40, qz10, qRd_in, qRd_out, qRd_m, qWr_in, qU_s, qU_n, qV_s, qV_n, zN_neg1, nL0, nL1, nL2, nL3, nL4, nL5, nL6, nL7, nL8, nL9, nL10, nL11, nL12, nL13, nL14, nL20, nL21, nL22, nL23, nL25, nL32, nL33, nL39, nL40, nL43, nL44, nL99, nL100, nL120, nL216, nL217, nL218, nL219, nL220, nL221, nL500, nL999, nL1000, nL10000, nL100000, sh33, zN_lt, zN_le, zN_eq, zN_ge0, zN_lt0, zN_nm, zN_mn, zN_mlt, zN_ltm, zN_lem, zN_mle, zN_m1, zN_m2, zN_addm, zN_ofNat, zN_beq, zN_add, zN_sub, zN_mul, zN_rem, qT_lt, qF_lt, qT_le, qF_le, qT_eq, qF_eq, ↓reduceIte, and_true, true_and, false_and, and_false, not_true_eq_false, not_false_eq_true, decide_true, decide_false, Bool.true_or, Bool.or_true, Bool.false_or, Bool.or_false, cond_true, cond_false, a2]
    exact b2
theorem tick_all (hI : invT Aq) (hh : (tL Aq 0).length = tN Aq 1) : tTick Aq = tTime Aq := by
  have hcl := come_len hI
  have hD : (fDn Aq (tN Aq 0)).length = 0 := by omega
  have hE : ∀ jq, jq ≤ tN Aq 0 → (fDn Aq jq).length = 0 := by
    intro jq hj
    have h1 := len_split hI hj
    have h2 : (tL Aq 0).length ≤ (fP Aq jq).length := by unfold fP; rw [List.length_append, List.length_map]; omega
    omega
  have hst : ∀ sq, sq < tN Aq 0 → tL Aq (4 + sq) = [] ∧ tC Aq sq = [] := by
    intro sq hs
    have h1 := hE (sq + 1) hs
    have h2 : (fDn Aq (sq + 1)).length = (tL Aq (4 + sq)).length + (tC Aq sq).length + (fDn Aq sq).length := by
      show (fSt Aq sq ++ fDn Aq sq).length = _
      unfold fSt
      simp only [List.length_append, List.length_map]
    exact ⟨List.eq_nil_of_length_eq_zero (by omega), List.eq_nil_of_length_eq_zero (by omega)⟩
  have h0 : tL Aq 1 = [] := by
    have h1 := hE 0 (Nat.zero_le _)
    unfold fDn at h1; rw [List.length_map] at h1
    exact List.eq_nil_of_length_eq_zero h1
  have hs1 : ∀ sq, sq < tN Aq 0 → tStreet (tTime Aq) sq = tTime Aq := by
    intro sq hs
    obtain ⟨e1, e2⟩ := hst sq hs
    have l1 : tLeave (tTime Aq) sq = tTime Aq := if_neg fun h => h.1 e1
    have l2 : tJoin (tTime Aq) sq = tTime Aq := by
      unfold tJoin
      split
      · rfl
      · next e9 es hc => rw [show tC (tTime Aq) sq = tC Aq sq from rfl, e2] at hc; cases hc
    have l3 : ∀ es : List (Nat × Nat), es = [] → tSetC (tTime Aq) sq es = tTime Aq := by
      intro es hes
      subst hes
      have : va_up (tC Aq) sq [] = tC Aq := by
        funext jq; unfold va_up; split
        · next h => rw [h, e2]
        · rfl
      show (tL Aq, va_up (tC Aq) sq [], tN Aq, tE Aq, tK Aq, tT Aq + zN 1, tX Aq) = _
      rw [this]; rfl
    have l4 : tMv (tTime Aq) sq = tTime Aq := l3 _ (by show mvC _ (tC Aq sq) = []; rw [e2]; rfl)
    have l5 : tMx (tTime Aq) sq = tTime Aq := by
      unfold tMx; split
      · exact l3 _ (by show mxC (tC Aq sq) = []; rw [e2]; rfl)
      · rfl
    unfold tStreet
    rw [l1, l2, l4, l5]
  have hd : ∀ jq, jq ≤ tN Aq 0 → tDown jq (tTime Aq) = tTime Aq := by
    intro jq
    induction jq with
    | zero => intro _; rfl
    | succ jq ih =>
      intro hj
      show tDown jq (tStreet (tTime Aq) jq) = _
      rw [hs1 jq (by omega), ih (by omega)]
  unfold tTick
  rw [hd _ (Nat.le_refl _)]
  unfold tOut
  split
  · rfl
  · next kq ks hc => rw [show tL (tTime Aq) 1 = tL Aq 1 from rfl, h0] at hc; cases hc
end QA

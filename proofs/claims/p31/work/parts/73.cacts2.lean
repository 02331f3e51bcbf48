/-! the pure part: the class's actions: lights, letters, settings, exchanges, back -/
def qFl (fq : Nat → Int32) (kq : Nat) (vq : Int32) : Nat → Int32 := fun iq => if iq < kq then vq else fq iq
def qId (fq : Nat → Int32) (kq : Nat) : Nat → Int32 := fun iq => if iq < kq then zN iq else fq iq
theorem qFl_s {fq : Nat → Int32} {kq : Nat} {vq : Int32} : upd (qFl fq kq vq) kq vq = qFl fq (kq + 1) vq := by
  funext iq; unfold upd qFl
  by_cases h : iq = kq
  · subst h; rw [if_pos rfl, if_pos (by omega)]
  · rw [if_neg h]
    by_cases h2 : iq < kq
    · rw [if_pos h2, if_pos (by omega)]
    · rw [if_neg h2, if_neg (by omega)]
theorem qId_s {fq : Nat → Int32} {kq : Nat} : upd (qId fq kq) kq (zN kq) = qId fq (kq + 1) := by
  funext iq; unfold upd qId
  by_cases h : iq = kq
  · subst h; rw [if_pos rfl, if_pos (by omega)]
  · rw [if_neg h]
    by_cases h2 : iq < kq
    · rw [if_pos h2, if_pos (by omega)]
    · rw [if_neg h2, if_neg (by omega)]
theorem qFl_0 {fq : Nat → Int32} {vq : Int32} : qFl fq 0 vq = fq := by funext iq; exact if_neg (Nat.not_lt_zero _)
theorem qId_0 {fq : Nat → Int32} : qId fq 0 = fq := by funext iq; exact if_neg (Nat.not_lt_zero _)
theorem qC_list {pz : Ent → Bool} : ∀ (nq : Nat) (Eq : List Ent) (fq : Nat → Bool), Eq.length = nq → (∀ iq eq, Eq[iq]? = some eq → fq iq = pz eq) → qC fq nq = Eq.countP pz := by
  intro nq
  induction nq with
  | zero => intro Eq fq h _; rw [List.eq_nil_of_length_eq_zero h]; rfl
  | succ nq ih =>
    intro Eq fq h hf
    rcases List.eq_nil_or_concat Eq with h1 | ⟨l9, e9, h1⟩
    · rw [h1] at h; cases h
    · rw [List.concat_eq_append] at h1
      subst h1
      rw [List.length_append, List.length_singleton] at h
      have hl : l9.length = nq := by omega
      rw [List.countP_append, ← ih l9 fq hl (fun iq eq he => hf iq eq (by rw [List.getElem?_append_left (List.getElem?_eq_some_iff.mp he).1]; exact he))]
      have h2 := hf nq e9 (by rw [List.getElem?_append_right (by omega), hl, Nat.sub_self]; rfl)
      show qC fq nq + _ = _
      rw [h2, List.countP_singleton]
section QA
variable {so : Nat → Nat} {g : pwG} {bq : Nat} {xq : Int64} {sc : Nat → Int32} {Rq Rz : Nat → Nat → Int32} {w : pwW} {Aq Bq : TA} {sq kq oq : Nat} {pq : Int32}
theorem nm_N {jq vq z9 : Nat} (h : z9 ≠ jq) : tN (tNum Aq jq vq) z9 = tN Aq z9 := by show va_up (tN Aq) jq vq z9 = _; exact va_up_ne _ _ h
theorem nm_Ns {jq vq : Nat} : tN (tNum Aq jq vq) jq = vq := by show va_up (tN Aq) jq vq jq = _; exact va_up_self _ _ _
theorem nm_fAll {jq vq : Nat} (h : 0 ≠ jq) : fAll (tNum Aq jq vq) = fAll Aq := fAll_same rfl rfl (nm_N h)
theorem c_shift {vq : Nat} (hI : invT Aq) (hT : repT Aq xq sc Rq) (hs : sq < tN Aq 0) : ∃ R1, repT (tNum Aq (16 + sq) vq) xq sc R1 ∧ pwX so 27 0 [some (.ref (bq + 1)), some (.int (zN sq)), some (.int (zN vq)), none] [] g (mkT bq xq sc Rq w) = some (.inl (some (.int (zN (tN Aq (16 + sq))))), g, (mkT bq xq sc R1 w)) := by
  have h4 := hI.1
  refine ⟨va_up Rq 5 (upd (Rq 5) sq (zN vq)), ?_, ?_⟩
  · obtain ⟨⟨⟨n1, n2, n3, n4, n5, n6⟩, n7, n8⟩, r⟩ := hT
    refine ⟨⟨⟨n1, by rw [nm_N (by omega)]; exact n2, by rw [nm_N (by omega)]; exact n3, n4, by rw [nm_N (by omega)]; exact n5, by rw [nm_N (by omega)]; exact n6⟩, fun s2 hs2 => ?_, fun k9 hk => ?_⟩, ?_⟩
    · rw [nm_N (by omega)] at hs2
      obtain ⟨a1, a2, a3, a4, a5, a6, a7⟩ := n7 s2 hs2
      rw [nm_N (by omega), nm_N (by omega), nm_N (by omega), nm_N (show 20 + s2 ≠ 16 + sq by omega)]
      simp (disch := omega) only [qV_n, qV_s]
      refine ⟨a1, a2, a3, ?_, a5, a6, a7⟩
      by_cases hx : s2 = sq
      · subst hx; rw [qU_s, nm_Ns]
      · rw [qU_n hx, nm_N (by omega)]; exact a4
    · rw [nm_N (by omega)] at hk
      simp (disch := omega) only [qV_n]
      exact n8 k9 hk
    · rw [nm_fAll (by omega)]
      exact repAt_eq r fun iq a c => by simp (disch := omega) only [qV_n, and_self]
  · rw [m_changeShift (by omega), (hT.1.2.1 sq hs).2.2.2.1]
theorem c_rule {vq : Nat} (hT : repT Aq xq sc Rq) : repT (tNum Aq 2 vq) xq (upd sc 3 (zN vq)) Rq ∧ pwX so 62 0 [some (.ref bq), some (.int (zN 0)), some (.int (zN vq)), none] [] g (mkT bq xq sc Rq w) = some (.inl (some (.int (zN (tN Aq 2)))), g, (mkT bq xq (upd sc 3 (zN vq)) Rq w)) := by
  refine ⟨?_, ?_⟩
  · obtain ⟨⟨⟨n1, n2, n3, n4, n5, n6⟩, n7, n8⟩, r⟩ := hT
    refine ⟨⟨⟨n1, by rw [qU_n (by decide), nm_N (by omega)]; exact n2, by rw [qU_n (by decide), nm_N (by omega)]; exact n3, by rw [qU_n (by decide)]; exact n4, by rw [qU_s, nm_Ns], by rw [qU_n (by decide), nm_N (by omega)]; exact n6⟩, fun s2 hs2 => ?_, fun k9 hk => ?_⟩, ?_⟩
    · rw [nm_N (by omega)] at hs2
      rw [nm_N (by omega), nm_N (by omega), nm_N (by omega), nm_N (by omega), nm_N (by omega)]
      exact n7 s2 hs2
    · rw [nm_N (by omega)] at hk
      exact n8 k9 hk
    · rw [nm_fAll (by omega)]; exact r
  · rw [m_changeSetting, if_pos rfl, if_pos rfl, hT.1.1.2.2.2.2.1]
theorem c_mixs {vq : Nat} (hT : repT Aq xq sc Rq) : repT (tNum Aq 3 vq) xq (upd sc 4 (zN vq)) Rq ∧ pwX so 62 0 [some (.ref bq), some (.int (zN 1)), some (.int (zN vq)), none] [] g (mkT bq xq sc Rq w) = some (.inl (some (.int (zN (tN Aq 3)))), g, (mkT bq xq (upd sc 4 (zN vq)) Rq w)) := by
  refine ⟨?_, ?_⟩
  · obtain ⟨⟨⟨n1, n2, n3, n4, n5, n6⟩, n7, n8⟩, r⟩ := hT
    refine ⟨⟨⟨n1, by rw [qU_n (by decide), nm_N (by omega)]; exact n2, by rw [qU_n (by decide), nm_N (by omega)]; exact n3, by rw [qU_n (by decide)]; exact n4, by rw [qU_n (by decide), nm_N (by omega)]; exact n5, by rw [qU_s, nm_Ns]⟩, fun s2 hs2 => ?_, fun k9 hk => ?_⟩, ?_⟩
    · rw [nm_N (by omega)] at hs2
      rw [nm_N (by omega), nm_N (by omega), nm_N (by omega), nm_N (by omega), nm_N (by omega)]
      exact n7 s2 hs2
    · rw [nm_N (by omega)] at hk
      exact n8 k9 hk
    · rw [nm_fAll (by omega)]; exact r
  · rw [m_changeSetting, if_neg (by decide), if_neg (by decide), hT.1.1.2.2.2.2.2]
theorem c_letter (hI : invT Aq) (hT : repT Aq xq sc Rq) (hk : kq < tN Aq 1) : ∃ R1, repT (tLetter Aq kq pq) xq sc R1 ∧ pwX so 59 0 [some (.ref bq), some (.int (zN kq)), some (.int pq), none] [] g (mkT bq xq sc Rq w) = some (.inl (some (.int (tE Aq kq))), g, (mkT bq xq sc R1 w)) := by
  have h4 := hI.1
  refine ⟨va_up Rq 9 (upd (Rq 9) kq pq), ?_, ?_⟩
  · obtain ⟨⟨n1, n7, n8⟩, r⟩ := hT
    refine ⟨⟨n1, fun s2 hs2 => ?_, fun k9 hk9 => ?_⟩, ?_⟩
    · have hs2 : s2 < tN Aq 0 := hs2
      simp (disch := omega) only [qV_n]
      exact n7 s2 hs2
    · have hk9 : k9 < tN Aq 1 := hk9
      simp (disch := omega) only [qV_n, qV_s]
      refine ⟨?_, (n8 k9 hk9).2⟩
      show upd (Rq 9) kq pq k9 = upd (tE Aq) kq pq k9
      by_cases hx : k9 = kq
      · subst hx; rw [qU_s, qU_s]
      · rw [qU_n hx, qU_n hx]; exact (n8 k9 hk9).1
    · rw [fAll_same (Bq := tLetter Aq kq pq) (Aq := Aq) rfl rfl rfl]
      exact repAt_eq r fun iq a c => by simp (disch := omega) only [qV_n, and_self]
  · rw [m_changeLetter (by omega), (hT.1.2.2 kq hk).1]
theorem c_swapP (hI : invT Aq) (hT : repT Aq xq sc Rq) (hk : kq < tN Aq 1) (ho : oq < tN Aq 1) : ∃ R1, repT (tSwap Aq kq oq) xq sc R1 ∧ pwX so 81 0 [some (.ref bq), some (.int (zN (plc Aq kq))), some (.int (zN (plc Aq oq))), none] [] g (mkT bq xq sc Rq w) = some (.inl none, g, (mkT bq xq sc R1 w)) := by
  have h4 := hI.1
  have p1 := plc_lt hI hk
  have p2 := plc_lt hI ho
  have g1 := plc_get hI hk
  have g2 := plc_get hI ho
  refine ⟨_, ?_, m_swapPlaces (by omega) (by omega)⟩
  have r2 := rep_two.mp hT.2
  refine ⟨repN_eq hT.1 rfl rfl rfl rfl rfl (fun s2 _ => sw_R (by omega)) (fun jq hj => qV_n (by omega)), rep_two.mpr ⟨fun iq v9 hv => ?_, fun iq rz hr => ?_⟩⟩
  · rw [qV_s]
    rw [sw_wAll h4.1, List.getElem?_map] at hv
    obtain ⟨u9, hu, rfl⟩ := Option.map_eq_some_iff.mp hv
    by_cases h1 : iq = plc Aq oq
    · subst h1
      cases g2.symm.trans hu
      rw [qU_s, r2.1 _ _ g1]
      unfold swp
      by_cases h2 : oq = kq
      · rw [if_pos h2, h2]
      · rw [if_neg h2, if_pos rfl]
    · by_cases h2 : iq = plc Aq kq
      · subst h2
        cases g1.symm.trans hu
        rw [qU_n h1, qU_s, r2.1 _ _ g2]
        unfold swp; rw [if_pos rfl]
      · rw [qU_n h1, qU_n h2, r2.1 _ _ hu]
        unfold swp
        rw [if_neg (fun hh => h2 (w_inj hI hu (by rw [hh]; exact g1))), if_neg (fun hh => h1 (w_inj hI hu (by rw [hh]; exact g2)))]
  · rw [sw_fAll2 h4.1] at hr
    rw [qV_n (by decide), qV_n (by decide), qV_n (by decide)]
    exact r2.2 iq rz hr
theorem c_swapW (hI : invT Aq) (hT : repT Aq xq sc Rq) (hk : kq < tN Aq 1) (ho : oq < tN Aq 1) : ∃ R1, repT (tSwap Aq kq oq) xq sc R1 ∧ pwX so 60 0 [some (.ref bq), some (.int (zN kq)), some (.int (zN oq)), none] [] g (mkT bq xq sc Rq w) = some (.inl (some (.int (zN (aWr Aq) - zN (aWr (tSwap Aq kq oq))))), g, (mkT bq xq sc R1 w)) := by
  obtain ⟨R1, a1, a2⟩ := @c_swapP so g bq xq sc Rq w Aq kq oq hI hT hk ho
  have b1 := @c_wrong so g bq xq sc Rq w Aq hI hT
  have b2 := @c_wrong so g bq xq sc R1 w (tSwap Aq kq oq) (inv_Swap hI hk ho) a1
  have b3 := @c_placeOf so g bq xq sc Rq w Aq kq hI hT hk
  have b4 := @c_placeOf so g bq xq sc Rq w Aq oq hI hT ho
  refine ⟨R1, a1, ?_⟩
  simp (disch := omega) only [s_X5_swapWalkers_0, s_X5_swapWalkers_1, s_X5_swapWalkers_4, s_X5_swapWalkers_5, s_X5_swapWalkers_6, s_X5_swapWalkers_7, s_X5_swapWalkers_8, s_X5_swapWalkers_11, s_X5_swapWalkers_12, s_X5_swapWalkers_13, s_X5_swapWalkers_16, s_X5_swapWalkers_19, s_X5_swapWalkers_20, s_X5_swapWalkers_21, s_X5_swapWalkers_24, s_X5_swapWalkers_25, ↓tg0, ↓tg1, ↓tg2, ↓tg3, ↓tg4, ↓tg5, ↓tg6, ↓tg7, ↓tg8, ↓tg9, ↓tg10, ↓tg11, ↓ts0, ↓ts1, ↓ts2, ↓ts3, ↓ts4, ↓ts5, ↓ts6, ↓ts7, ↓tp_x, ↓tp1, ↓tp2, ↓tp3, ↓tp4, ↓tps, mkT_i, mkT_is, cond_true, cond_false, qAv, qAn, qV_vv, q_atT, q_putT, qz4, qz40, qz10, qRd_in, qRd_out, qRd_m, qWr_in, qU_s, qU_n, qV_s, qV_n, a2, b1, b2, b3, b4]
theorem c_forget {fr : Nat → Nat → Int32} {Sq : Nat} (hn : sc 0 = zN Sq) (h4 : Sq ≤ 4) : ∀ dq jq, jq + dq = Sq → pwX so 30 2 [some (.ref (bq + 1)), some (.int (zN jq))] [] g (mkT bq xq sc (va_up fr 7 (qFl (fr 7) jq (zN 0))) w) = some (.inl none, g, (mkT bq xq sc (va_up fr 7 (qFl (fr 7) Sq (zN 0))) w)) := by
  intro dq
  induction dq with
  | zero =>
    intro jq h1
    have h1 : jq = Sq := by omega
    subst h1
    simp (disch := omega) only [s_X4_forgetReaders_0, s_X4_forgetReaders_1, s_X4_forgetReaders_2, s_X4_forgetReaders_3, s_X4_forgetReaders_4, s_X4_forgetReaders_7, s_X4_forgetReaders_10, s_X4_forgetReaders_11, s_X4_forgetReaders_14, s_X4_forgetReaders_15, s_X4_forgetReaders_16, s_X4_forgetReaders_19, s_X4_forgetReaders_22, s_X4_forgetReaders_25, ↓tg0, ↓tg1, ↓tg2, ↓tg3, ↓tg4, ↓tg5, ↓tg6, ↓tg7, ↓tg8, ↓tg9, ↓tg10, ↓tg11, ↓ts0, ↓ts1, ↓ts2, ↓ts3, ↓ts4, ↓ts5, ↓ts6, ↓ts7, ↓tp_x, ↓tp1, ↓tp2, ↓tp3, ↓tp4, ↓tps, mkT_i, mkT_is, cond_true, cond_false, qAv, qAn, qV_vv, q_atT, q_putT, qz4, qz40, qz10, qRd_in, qRd_out, qRd_m, qWr_in, qU_s, qU_n, qV_s, qV_n, zN_neg1, nL0, nL1, nL2, nL3, nL4, nL5, nL6, nL7, nL8, nL9, nL10, nL11, nL12, nL13, nL14, nL20, nL21, nL22, nL23, nL25, nL32, nL33, nL39, nL40, nL43, nL44, nL99, nL100, nL120, nL216, nL217, nL218, nL219, nL220, nL221, nL500, nL999, nL1000, nL10000, nL100000, sh33, zN_lt, zN_le, zN_eq, zN_ge0, zN_lt0, zN_nm, zN_mn, zN_mlt, zN_ltm, zN_lem, zN_mle, zN_m1, zN_m2, zN_addm, zN_ofNat, zN_beq, zN_add, zN_sub, zN_mul, zN_rem, qT_lt, qF_lt, qT_le, qF_le, qT_eq, qF_eq, ↓reduceIte, and_true, true_and, false_and, and_false, not_true_eq_false, not_false_eq_true, decide_true, decide_false, Bool.true_or, Bool.or_true, Bool.false_or, Bool.or_false, cond_true, cond_false, hn]
  | succ dq ih =>
    intro jq h1
    have h5 := ih (jq + 1) (by omega)
    rw [s_X4_forgetReaders_2]
    simp (disch := omega) only [s_X4_forgetReaders_0, s_X4_forgetReaders_1, s_X4_forgetReaders_3, s_X4_forgetReaders_4, s_X4_forgetReaders_7, s_X4_forgetReaders_10, s_X4_forgetReaders_11, s_X4_forgetReaders_14, s_X4_forgetReaders_15, s_X4_forgetReaders_16, s_X4_forgetReaders_19, s_X4_forgetReaders_22, s_X4_forgetReaders_25, ↓tg0, ↓tg1, ↓tg2, ↓tg3, ↓tg4, ↓tg5, ↓tg6, ↓tg7, ↓tg8, ↓tg9, ↓tg10, ↓tg11, ↓ts0, ↓ts1, ↓ts2, ↓ts3, ↓ts4, ↓ts5, ↓ts6, ↓ts7, ↓tp_x, ↓tp1, ↓tp2, ↓tp3, ↓tp4, ↓tps, mkT_i, mkT_is, cond_true, cond_false, qAv, qAn, qV_vv, q_atT, q_putT, qz4, qz40, qz10, qRd_in, qRd_out, qRd_m, qWr_in, qU_s, qU_n, qV_s, qV_n, zN_neg1, nL0, nL1, nL2, nL3, nL4, nL5, nL6, nL7, nL8, nL9, nL10, nL11, nL12, nL13, nL14, nL20, nL21, nL22, nL23, nL25, nL32, nL33, nL39, nL40, nL43, nL44, nL99, nL100, nL120, nL216, nL217, nL218, nL219, nL220, nL221, nL500, nL999, nL1000, nL10000, nL100000, sh33, zN_lt, zN_le, zN_eq, zN_ge0, zN_lt0, zN_nm, zN_mn, zN_mlt, zN_ltm, zN_lem, zN_mle, zN_m1, zN_m2, zN_addm, zN_ofNat, zN_beq, zN_add, zN_sub, zN_mul, zN_rem, qT_lt, qF_lt, qT_le, qF_le, qT_eq, qF_eq, ↓reduceIte, and_true, true_and, false_and, and_false, not_true_eq_false, not_false_eq_true, decide_true, decide_false, Bool.true_or, Bool.or_true, Bool.false_or, Bool.or_false, cond_true, cond_false, hn, qFl_s]
    exact h5
theorem c_forgetR {fr : Nat → Nat → Int32} {Sq : Nat} (hn : sc 0 = zN Sq) (h4 : Sq ≤ 4) : pwX so 30 0 [some (.ref (bq + 1)), none] [] g (mkT bq xq sc fr w) = some (.inl none, g, (mkT bq xq sc (va_up fr 7 (qFl (fr 7) Sq (zN 0))) w)) := by
  have h := @c_forget so g bq xq sc w fr Sq hn h4 Sq 0 (by omega)
  rw [qFl_0, show va_up fr 7 (fr 7) = fr from funext fun jq => by unfold va_up; split <;> simp_all] at h
  simp only [s_X4_forgetReaders_0, s_X4_forgetReaders_1, nL0]
  exact h
def pBk (Rq Rz : Nat → Nat → Int32) (kq : Nat) : Prop := (∀ jq, jq < 10 → Rz jq = Rq jq) ∧ Rz 10 = qFl (Rq 10) kq zM ∧ Rz 11 = qId (Rq 11) kq ∧ Rz 12 = qFl (Rq 12) kq (zN 0) ∧ Rz 13 = qFl (Rq 13) kq zM ∧ Rz 14 = qFl (Rq 14) kq zM
theorem c_back13 {nq Sq : Nat} {zq : Int32} (hn : sc 1 = zN nq) (hq : nq ≤ 10) (hn0 : sc 0 = zN Sq) (h4 : Sq ≤ 4) : ∀ dq jq (Rz : Nat → Nat → Int32), jq + dq = nq → pBk Rq Rz jq → ∃ R1, pBk Rq R1 nq ∧ pwX so 61 13 [some (.ref bq), some (.int zq), some (.int (zN jq))] [] g (mkT bq xq sc Rz w) = some (.inl (some (.int (zq))), g, (mkT bq xq sc (va_up R1 7 (qFl (Rq 7) Sq (zN 0))) w)) := by
  intro dq
  induction dq with
  | zero =>
    intro jq Rz h1 hp
    have h1 : jq = nq := by omega
    subst h1
    refine ⟨Rz, hp, ?_⟩
    have a := @c_forgetR so g bq xq sc w Rz Sq hn0 h4
    rw [hp.1 7 (by decide)] at a
    simp (disch := omega) only [s_X5_sendBack_0, s_X5_sendBack_1, s_X5_sendBack_4, s_X5_sendBack_5, s_X5_sendBack_6, s_X5_sendBack_9, s_X5_sendBack_10, s_X5_sendBack_11, s_X5_sendBack_12, s_X5_sendBack_13, s_X5_sendBack_14, s_X5_sendBack_15, s_X5_sendBack_18, s_X5_sendBack_21, s_X5_sendBack_22, s_X5_sendBack_25, s_X5_sendBack_26, s_X5_sendBack_27, s_X5_sendBack_30, s_X5_sendBack_31, s_X5_sendBack_34, s_X5_sendBack_35, s_X5_sendBack_36, s_X5_sendBack_39, s_X5_sendBack_40, s_X5_sendBack_41, s_X5_sendBack_42, s_X5_sendBack_43, s_X5_sendBack_44, s_X5_sendBack_47, s_X5_sendBack_50, s_X5_sendBack_53, s_X5_sendBack_54, s_X5_sendBack_57, s_X5_sendBack_60, s_X5_sendBack_61, ↓tg0, ↓tg1, ↓tg2, ↓tg3, ↓tg4, ↓tg5, ↓tg6, ↓tg7, ↓tg8, ↓tg9, ↓tg10, ↓tg11, ↓ts0, ↓ts1, ↓ts2, ↓ts3, ↓ts4, ↓ts5, ↓ts6, ↓ts7, ↓tp_x, ↓tp1, ↓tp2, ↓tp3, ↓tp4, ↓tps, mkT_i, mkT_is, cond_true, cond_false, qAv, qAn, qV_vv, q_atT, q_putT, qz4, qz40, qz10, qRd_in, qRd_out, qRd_m, qWr_in, qU_s, qU_n, qV_s, qV_n, zN_neg1, nL0, nL1, nL2, nL3, nL4, nL5, nL6, nL7, nL8, nL9, nL10, nL11, nL12, nL13, nL14, nL20, nL21, nL22, nL23, nL25, nL32, nL33, nL39, nL40, nL43, nL44, nL99, nL100, nL120, nL216, nL217, nL218, nL219, nL220, nL221, nL500, nL999, nL1000, nL10000, nL100000, sh33, zN_lt, zN_le, zN_eq, zN_ge0, zN_lt0, zN_nm, zN_mn, zN_mlt, zN_ltm, zN_lem, zN_mle, zN_m1, zN_m2, zN_addm, zN_ofNat, zN_beq, zN_add, zN_sub, zN_mul, zN_rem, qT_lt, qF_lt, qT_le, qF_le, qT_eq, qF_eq, ↓reduceIte, and_true, true_and, false_and, and_false, not_true_eq_false, not_false_eq_true, decide_true, decide_false, Bool.true_or, Bool.or_true, Bool.false_or, Bool.or_false, cond_true, cond_false, hn, a]
  | succ dq ih =>
    intro jq Rz h1 hp
    obtain ⟨p1, p10, p11, p12, p13, p14⟩ := hp
    obtain ⟨R1, i1, i2⟩ := ih (jq + 1) (va_up (va_up (va_up (va_up (va_up Rz 11 (upd (Rz 11) jq (zN jq))) 10 (upd (Rz 10) jq zM)) 12 (upd (Rz 12) jq (zN 0))) 13 (upd (Rz 13) jq zM)) 14 (upd (Rz 14) jq zM)) (by omega) (by
      refine ⟨fun z9 hz => ?_, ?_, ?_, ?_, ?_, ?_⟩
      · simp (disch := omega) only [qV_n]; exact p1 z9 hz
      · simp (disch := omega) only [qV_n, qV_s]; rw [p10, qFl_s]
      · simp (disch := omega) only [qV_n, qV_s]; rw [p11, qId_s]
      · simp (disch := omega) only [qV_n, qV_s]; rw [p12, qFl_s]
      · simp (disch := omega) only [qV_n, qV_s]; rw [p13, qFl_s]
      · simp (disch := omega) only [qV_n, qV_s]; rw [p14, qFl_s])
    refine ⟨R1, i1, ?_⟩
    rw [s_X5_sendBack_13]
    simp (disch := omega) only [s_X5_sendBack_0, s_X5_sendBack_1, s_X5_sendBack_4, s_X5_sendBack_5, s_X5_sendBack_6, s_X5_sendBack_9, s_X5_sendBack_10, s_X5_sendBack_11, s_X5_sendBack_12, s_X5_sendBack_14, s_X5_sendBack_15, s_X5_sendBack_18, s_X5_sendBack_21, s_X5_sendBack_22, s_X5_sendBack_25, s_X5_sendBack_26, s_X5_sendBack_27, s_X5_sendBack_30, s_X5_sendBack_31, s_X5_sendBack_34, s_X5_sendBack_35, s_X5_sendBack_36, s_X5_sendBack_39, s_X5_sendBack_40, s_X5_sendBack_41, s_X5_sendBack_42, s_X5_sendBack_43, s_X5_sendBack_44, s_X5_sendBack_47, s_X5_sendBack_50, s_X5_sendBack_53, s_X5_sendBack_54, s_X5_sendBack_57, s_X5_sendBack_60, s_X5_sendBack_61, ↓tg0, ↓tg1, ↓tg2, ↓tg3, ↓tg4, ↓tg5, ↓tg6, ↓tg7, ↓tg8, ↓tg9, ↓tg10, ↓tg11, ↓ts0, ↓ts1, ↓ts2, ↓ts3, ↓ts4, ↓ts5, ↓ts6, ↓ts7, ↓tp_x, ↓tp1, ↓tp2, ↓tp3, ↓tp4, ↓tps, mkT_i, mkT_is, cond_true, cond_false, qAv, qAn, qV_vv, q_atT, q_putT, qz4, qz40, qz10, qRd_in, qRd_out, qRd_m, qWr_in, qU_s, qU_n, qV_s, qV_n, zN_neg1, nL0, nL1, nL2, nL3, nL4, nL5, nL6, nL7, nL8, nL9, nL10, nL11, nL12, nL13, nL14, nL20, nL21, nL22, nL23, nL25, nL32, nL33, nL39, nL40, nL43, nL44, nL99, nL100, nL120, nL216, nL217, nL218, nL219, nL220, nL221, nL500, nL999, nL1000, nL10000, nL100000, sh33, zN_lt, zN_le, zN_eq, zN_ge0, zN_lt0, zN_nm, zN_mn, zN_mlt, zN_ltm, zN_lem, zN_mle, zN_m1, zN_m2, zN_addm, zN_ofNat, zN_beq, zN_add, zN_sub, zN_mul, zN_rem, qT_lt, qF_lt, qT_le, qF_le, qT_eq, qF_eq, ↓reduceIte, and_true, true_and, false_and, and_false, not_true_eq_false, not_false_eq_true, decide_true, decide_false, Bool.true_or, Bool.or_true, Bool.false_or, Bool.or_false, cond_true, cond_false, hn, m_stand]
    exact i2
theorem cnt_D {pz : Ent → Bool} (h2 : ∀ s2 k9, pz (eCr s2 k9) = false) (h1 : ∀ s2 e9, pz (eCe s2 e9) = false) (h0 : ∀ k9, pz (eSt k9) = true) : ∀ jq, (fDn Aq jq).countP pz = (tL Aq 1).length := by
  intro jq
  induction jq with
  | zero =>
    unfold fDn
    rw [List.countP_map, List.countP_eq_length]
    exact fun k9 _ => h0 k9
  | succ jq ih =>
    unfold fDn fSt
    rw [List.countP_append, List.countP_append, ih, List.countP_map, List.countP_map, List.countP_eq_zero.mpr (fun k9 _ => by show ¬ pz (eCr jq k9) = true; rw [h2]; decide), List.countP_eq_zero.mpr (fun k9 _ => by show ¬ pz (eCe jq k9) = true; rw [h1]; decide)]
    omega
theorem c_start (hI : invT Aq) (hT : repT Aq xq sc Rq) : qC (fun jq => decide (Rq 12 jq = zN 0)) (tN Aq 1) = (tL Aq 1).length := by
  have h1 := qC_list (pz := fun eq => decide (eq.2.1 = zN 0)) (tN Aq 1) (fAll Aq) (fun jq => decide (Rq 12 jq = zN 0)) (by rw [fAll_len]; exact hI.2.1.1) (fun iq eq he => by
    have := (hT.2 iq eq he).2.1
    rw [Nat.zero_add] at this
    rw [this])
  rw [h1]
  unfold fAll
  rw [List.countP_append, cnt_D (fun _ _ => decide_eq_false (show ¬ zN 2 = zN 0 by decide)) (fun _ _ => decide_eq_false (show ¬ zN 1 = zN 0 by decide)) (fun _ => decide_eq_true (show zN 0 = zN 0 from rfl)), List.countP_map, List.countP_eq_zero.mpr (fun k9 _ => by show ¬ decide (zN 3 = zN 0) = true; decide)]
  omega
theorem c_back (hI : invT Aq) (hT : repT Aq xq sc Rq) : ∃ R1, repT (tBack Aq) xq sc R1 ∧ pwX so 61 0 [some (.ref bq), none, none] [] g (mkT bq xq sc Rq w) = some (.inl (some (.int (zN (tN Aq 1) - zN (tL Aq 1).length))), g, (mkT bq xq sc R1 w)) := by
  have h4 := hI.1
  obtain ⟨⟨⟨n1, n2, n3, n4, n5, n6⟩, n7, n8⟩, r⟩ := hT
  obtain ⟨R1, ⟨p1, p10, p11, p12, p13, p14⟩, b2⟩ := @c_back13 so g bq xq sc Rq w (tN Aq 1) (tN Aq 0) (zN (tN Aq 1) - zN (tL Aq 1).length) n3 h4.2.1 n2 h4.1 (tN Aq 1) 0 Rq (by omega) ⟨fun _ _ => rfl, qFl_0.symm, qId_0.symm, qFl_0.symm, qFl_0.symm, qFl_0.symm⟩
  have a1 := @m_countStanding so g bq xq sc Rq w (zN 0) (tN Aq 1) n3 h4.2.1
  rw [c_start hI ⟨⟨⟨n1, n2, n3, n4, n5, n6⟩, n7, n8⟩, r⟩] at a1
  refine ⟨va_up R1 7 (qFl (Rq 7) (tN Aq 0) (zN 0)), ?_, ?_⟩
  · refine ⟨⟨⟨n1, n2, n3, n4, n5, n6⟩, fun s2 hs2 => ?_, fun k9 hk => ?_⟩, ?_⟩
    · have hs2 : s2 < tN Aq 0 := hs2
      simp (disch := omega) only [qV_n, qV_s, p1]
      obtain ⟨a1, a2, a3, a4, a5, a6, a7⟩ := n7 s2 hs2
      rw [bk_L (by omega)]
      refine ⟨a1, a2, a3, a4, a5, ?_, fun iq kq hh => by cases hh⟩
      unfold qFl; rw [if_pos hs2]; rfl
    · have hk : k9 < tN Aq 1 := hk
      simp (disch := omega) only [qV_n, p1, p10]
      refine ⟨(n8 k9 hk).1, ?_⟩
      unfold qFl; rw [if_pos hk]; rfl
    · have hf : fAll (tBack Aq) = (List.range (tN Aq 1)).map eSt := by unfold fAll; rw [bk_0, (bk_D _).1]; rfl
      rw [hf]
      intro iq eq he
      rw [List.getElem?_map] at he
      obtain ⟨k9, hk, rfl⟩ := Option.map_eq_some_iff.mp he
      obtain ⟨hi, hk2⟩ := List.getElem?_eq_some_iff.mp hk
      rw [List.length_range] at hi
      rw [List.getElem_range] at hk2
      subst hk2
      rw [Nat.zero_add]
      simp (disch := omega) only [qV_n, p11, p12, p13, p14]
      unfold qFl qId
      rw [if_pos hi, if_pos hi, if_pos hi, if_pos hi]
      exact ⟨rfl, rfl, rfl, rfl⟩
  · simp (disch := omega) only [s_X5_sendBack_0, s_X5_sendBack_1, s_X5_sendBack_4, s_X5_sendBack_5, s_X5_sendBack_6, s_X5_sendBack_9, s_X5_sendBack_10, s_X5_sendBack_11, s_X5_sendBack_12, ↓tg0, ↓tg1, ↓tg2, ↓tg3, ↓tg4, ↓tg5, ↓tg6, ↓tg7, ↓tg8, ↓tg9, ↓tg10, ↓tg11, ↓ts0, ↓ts1, ↓ts2, ↓ts3, ↓ts4, ↓ts5, ↓ts6, ↓ts7, ↓tp_x, ↓tp1, ↓tp2, ↓tp3, ↓tp4, ↓tps, mkT_i, mkT_is, cond_true, cond_false, qAv, qAn, qV_vv, q_atT, q_putT, qz4, qz40, qz10, qRd_in, qRd_out, qRd_m, qWr_in, qU_s, qU_n, qV_s, qV_n, zN_neg1, nL0, nL1, nL2, nL3, nL4, nL5, nL6, nL7, nL8, nL9, nL10, nL11, nL12, nL13, nL14, nL20, nL21, nL22, nL23, nL25, nL32, nL33, nL39, nL40, nL43, nL44, nL99, nL100, nL120, nL216, nL217, nL218, nL219, nL220, nL221, nL500, nL999, nL1000, nL10000, nL100000, n3, a1]
    exact b2
end QA

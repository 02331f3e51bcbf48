/-! the pure part: a tick of the class: one leaves -/
section QA
variable {so : Nat → Nat} {g : pwG} {bq : Nat} {xq : Int64} {sc : Nat → Int32} {Rq Rz : Nat → Nat → Int32} {w : pwW} {Aq : TA} {sq pl fr nr kk : Nat} {tq : Int32} {lst : Bool}
theorem qLv_o {jq : Nat} (h : jq ≤ 6 ∨ jq = 9) : qLv Rq sq pl fr nr lst tq kk jq = Rq jq := by
  unfold qLv; cases lst <;> simp (disch := omega) only [cond_true, cond_false, qV_n]
theorem qLv_7 : qLv Rq sq pl fr nr lst tq kk 7 = upd (Rq 7) sq (zN (nr + 1)) := by
  unfold qLv; cases lst <;> simp (disch := omega) only [cond_true, cond_false, qV_n, qV_s]
theorem qLv_8 : qLv Rq sq pl fr nr lst tq kk 8 = upd (Rq 8) (sq * 10 + nr) (zN kk) := by
  unfold qLv; cases lst <;> simp (disch := omega) only [cond_true, cond_false, qV_n, qV_s]
theorem qLv_10 : qLv Rq sq pl fr nr lst tq kk 10 = bif lst then upd (Rq 10) kk tq else Rq 10 := by
  unfold qLv; cases lst <;> simp (disch := omega) only [cond_true, cond_false, qV_n, qV_s]
theorem qLv_11 : qLv Rq sq pl fr nr lst tq kk 11 = qBF (Rq 11) pl fr := by
  unfold qLv; cases lst <;> simp (disch := omega) only [cond_true, cond_false, qV_n, qV_s]
theorem qLv_12 : qLv Rq sq pl fr nr lst tq kk 12 = upd (Rq 12) fr (bif lst then zN 3 else zN 1) := by
  unfold qLv; cases lst <;> simp (disch := omega) only [cond_true, cond_false, qV_n, qV_s]
theorem qLv_13 : qLv Rq sq pl fr nr lst tq kk 13 = upd (Rq 13) fr (bif lst then zM else zN (sq + 1)) := by
  unfold qLv; cases lst <;> simp (disch := omega) only [cond_true, cond_false, qV_n, qV_s]
theorem qLv_14 : qLv Rq sq pl fr nr lst tq kk 14 = upd (Rq 14) fr (bif lst then zM else zN 0) := by
  unfold qLv; cases lst <;> simp (disch := omega) only [cond_true, cond_false, qV_n, qV_s]
theorem tLv_num : tT (tLv Aq sq) = tT Aq ∧ tX (tLv Aq sq) = chX (tN Aq 2) (tX Aq) ∧ tE (tLv Aq sq) = tE Aq := by
  unfold tLv; split <;> exact ⟨rfl, rfl, rfl⟩
theorem tLv_K : tK (tLv Aq sq) = bif decide (sq + 1 = tN Aq 0) then upd (tK Aq) (tWho Aq sq) (tT Aq) else tK Aq := by
  unfold tLv; split
  · next h => rw [decide_eq_true h]; rfl
  · next h => rw [decide_eq_false h]; rfl
theorem tWho_lt (hI : invT Aq) (hs : sq < tN Aq 0) (hn : tL Aq (4 + sq) ≠ []) : tWho Aq sq < tN Aq 1 := by
  obtain ⟨h1, h2⟩ := tWho_get hn
  refine hI.2.1.2.2 _ ?_
  rw [wDn_eq (sq + 1) hs]
  refine List.mem_append_right _ ?_
  show tWho Aq sq ∈ tL Aq (4 + sq) ++ (tC Aq sq).map Prod.snd ++ wDn Aq sq
  rw [← h2]
  exact List.mem_append_left _ (List.mem_append_left _ (List.getElem_mem h1))
theorem c_choose (hI : invT Aq) (hT : repT Aq xq sc Rq) (hs : sq < tN Aq 0) (hn : tL Aq (4 + sq) ≠ []) : pwX so 75 0 [some (.ref bq), some (.int (zN (qFr Aq sq))), some (.int (zN (qN1 Aq sq))), none] [] g (mkT bq xq sc Rq w) = some (.inl (some (.int (zN (qFr Aq sq + tI Aq sq)))), g, (mkT bq (chX (tN Aq 2) xq) sc Rq w)) := by
  have hl := c_len hI hs
  obtain ⟨d0, d1, d2⟩ := qN_e Aq sq
  have h4 := hI.1
  have h5 := List.length_pos_iff.mpr hn
  obtain ⟨r1, r2, r3, r4⟩ := (c_split hs).mp hT.2
  rw [m_leavingPlace (rl := tN Aq 2) hT.1.1.2.2.2.2.1 h4.2.2.1 (by omega) (by omega)]
  have h6 : chI (tN Aq 2) xq (fun jq => Rq 11 (qFr Aq sq + jq)) (qN1 Aq sq - qFr Aq sq) = tI Aq sq := by
    unfold tI
    rw [hT.1.1.1, show qN1 Aq sq - qFr Aq sq = (tL Aq (4 + sq)).length by omega]
    refine chI_eq fun jq hj => ?_
    have h7 := (r2 jq (eCr sq ((tL Aq (4 + sq)).getD jq 0)) (by rw [List.getElem?_map, List.getElem?_eq_getElem hj, List.getD_eq_getElem?_getD, List.getElem?_eq_getElem hj]; rfl)).1
    exact h7
  rw [h6]
theorem rd_le (hI : invT Aq) (hs : sq < tN Aq 0) : (tL Aq (8 + sq)).length + (tL Aq (4 + sq)).length ≤ 10 ∧ (tL Aq (8 + sq)).length = qFr Aq sq := by
  have hl := c_len hI hs
  obtain ⟨d0, d1, d2⟩ := qN_e Aq sq
  have h4 := hI.1
  have h5 := (hI.2.2 sq hs).2.2.2
  omega
theorem c_leave (hI : invT Aq) (hT : repT Aq xq sc Rq) (hs : sq < tN Aq 0) (hg : goL Aq sq) : repT (tLv Aq sq) (chX (tN Aq 2) xq) sc (qLv Rq sq (qFr Aq sq + tI Aq sq) (qFr Aq sq) (tL Aq (8 + sq)).length (decide (sq + 1 = tN Aq 0)) (sc 2) (tWho Aq sq)) ∧ pwX so 74 0 [some (.ref bq), some (.int (zN sq)), some (.int (zN (qFr Aq sq + tI Aq sq))), some (.int (zN (qFr Aq sq))), none] [] g (mkT bq xq sc Rq w) = some (.inl none, g, (mkT bq xq sc (qLv Rq sq (qFr Aq sq + tI Aq sq) (qFr Aq sq) (tL Aq (8 + sq)).length (decide (sq + 1 = tN Aq 0)) (sc 2) (tWho Aq sq)) w)) := by
  have hl := c_len hI hs
  obtain ⟨d0, d1, d2⟩ := qN_e Aq sq
  have h4 := hI.1
  obtain ⟨hi, hk⟩ := tWho_get hg.1
  have hwl := tWho_lt hI hs hg.1
  obtain ⟨hrd, hrd2⟩ := rd_le hI hs
  obtain ⟨r1, r2, r3, r4⟩ := (c_split hs).mp hT.2
  obtain ⟨n1, n2, n3⟩ := hT.1
  obtain ⟨s1, s2, s3, s4, s5, s6, s7⟩ := n2 sq hs
  have hcr : ∀ jq (hj : jq < (tL Aq (4 + sq)).length), Rq 11 (qFr Aq sq + jq) = zN (tL Aq (4 + sq))[jq] ∧ Rq 12 (qFr Aq sq + jq) = zN 2 ∧ Rq 13 (qFr Aq sq + jq) = zN sq ∧ Rq 14 (qFr Aq sq + jq) = zM := fun jq hj =>
    r2 jq (eCr sq (tL Aq (4 + sq))[jq]) (by rw [List.getElem?_map, List.getElem?_eq_getElem hj]; rfl)
  have hpl : Rq 11 (qFr Aq sq + tI Aq sq) = zN (tWho Aq sq) := by rw [(hcr _ hi).1, hk]
  refine ⟨?_, m_leave (Sq := tN Aq 0) n1.2.1 h4.1 hs (by omega) (by omega) s6 (by omega) hpl (by omega)⟩
  obtain ⟨u1, u2, u3⟩ := @tLv_num Aq sq
  refine ⟨⟨⟨by rw [u2, n1.1], by rw [tLv_N]; exact n1.2.1, by rw [tLv_N]; exact n1.2.2.1, by rw [u1]; exact n1.2.2.2.1, by rw [tLv_N]; exact n1.2.2.2.2.1, by rw [tLv_N]; exact n1.2.2.2.2.2⟩, fun z9 hz => ?_, fun k9 hk9 => ?_⟩, ?_⟩
  · rw [tLv_N] at hz ⊢
    obtain ⟨t1, t2, t3, t4, t5, t6, t7⟩ := n2 z9 hz
    rw [qLv_o (by omega), qLv_o (by omega), qLv_o (by omega), qLv_o (by omega), qLv_o (by omega), qLv_7, qLv_8]
    refine ⟨t1, t2, t3, t4, t5, ?_, ?_⟩
    · by_cases hx : z9 = sq
      · subst hx; rw [qU_s, tLv_rd, List.length_append]; rfl
      · rw [qU_n hx, tLv_L (by omega) (by omega) (by omega)]; exact t6
    · intro iq kq hq
      by_cases hx : z9 = sq
      · subst hx
        rw [tLv_rd] at hq
        by_cases hy : iq < (tL Aq (8 + z9)).length
        · rw [List.getElem?_append_left hy] at hq
          rw [qU_n (by omega)]; exact t7 iq kq hq
        · have hz2 : iq = (tL Aq (8 + z9)).length := by
            have := (List.getElem?_eq_some_iff.mp hq).1
            rw [List.length_append, List.length_singleton] at this; omega
          subst hz2
          rw [List.getElem?_append_right (Nat.le_refl _), Nat.sub_self] at hq
          cases hq
          rw [qU_s]
      · rw [tLv_L (by omega) (by omega) (by omega)] at hq
        have hy := (List.getElem?_eq_some_iff.mp hq).1
        have hy2 := (rd_le hI hz).1
        rw [qU_n (by omega)]; exact t7 iq kq hq
  · rw [tLv_N] at hk9
    obtain ⟨t1, t2⟩ := n3 k9 hk9
    rw [qLv_o (by omega), qLv_10, u3, tLv_K]
    refine ⟨t1, ?_⟩
    cases decide (sq + 1 = tN Aq 0) with
    | false => exact t2
    | true =>
      show upd (Rq 10) (tWho Aq sq) (sc 2) k9 = upd (tK Aq) (tWho Aq sq) (tT Aq) k9
      unfold upd
      rw [n1.2.2.2.1, t2]
  · rw [c_split (Aq := tLv Aq sq) (by rw [tLv_N]; exact hs)]
    have e0 : qFr (tLv Aq sq) sq = qFr Aq sq + 1 := by unfold qFr; rw [tLv_fP h4.1 hs, List.length_append]; rfl
    have e1 : qN1 (tLv Aq sq) sq = qN1 Aq sq := by
      rw [(qN_e (tLv Aq sq) sq).2.1, e0, tLv_cr (by omega), List.length_eraseIdx_of_lt hi]; omega
    have e2 : qN2 (tLv Aq sq) sq = qN2 Aq sq := by
      rw [(qN_e (tLv Aq sq) sq).2.2, e1, tLv_C (by omega)]; omega
    rw [e0, e1, e2, tLv_fP h4.1 hs, tLv_cr (by omega), tLv_C (by omega), tLv_fD (by omega) (Nat.le_refl _), repAt_app]
    have hun : ∀ iq, iq < qFr Aq sq ∨ qN1 Aq sq ≤ iq → qLv Rq sq (qFr Aq sq + tI Aq sq) (qFr Aq sq) (tL Aq (8 + sq)).length (decide (sq + 1 = tN Aq 0)) (sc 2) (tWho Aq sq) 11 iq = Rq 11 iq ∧ qLv Rq sq (qFr Aq sq + tI Aq sq) (qFr Aq sq) (tL Aq (8 + sq)).length (decide (sq + 1 = tN Aq 0)) (sc 2) (tWho Aq sq) 12 iq = Rq 12 iq ∧ qLv Rq sq (qFr Aq sq + tI Aq sq) (qFr Aq sq) (tL Aq (8 + sq)).length (decide (sq + 1 = tN Aq 0)) (sc 2) (tWho Aq sq) 13 iq = Rq 13 iq ∧ qLv Rq sq (qFr Aq sq + tI Aq sq) (qFr Aq sq) (tL Aq (8 + sq)).length (decide (sq + 1 = tN Aq 0)) (sc 2) (tWho Aq sq) 14 iq = Rq 14 iq := by
      intro iq hq
      rw [qLv_11, qLv_12, qLv_13, qLv_14, qU_n (by omega), qU_n (by omega), qU_n (by omega)]
      refine ⟨?_, rfl, rfl, rfl⟩
      unfold qBF
      rw [if_neg (by omega), if_neg (by omega)]
    refine ⟨⟨repAt_eq r1 fun iq a b => hun iq (by omega), ?_⟩, ?_, ?_, ?_⟩
    · rw [Nat.zero_add, ← d0]
      refine repAt_one ?_
      rw [qLv_11, qLv_12, qLv_13, qLv_14, qU_s, qU_s, qU_s]
      have h9 : qBF (Rq 11) (qFr Aq sq + tI Aq sq) (qFr Aq sq) (qFr Aq sq) = zN (tWho Aq sq) := by unfold qBF; rw [if_pos rfl, hpl]
      rw [h9]
      unfold eLv
      by_cases hx : sq + 1 = tN Aq 0
      · rw [if_pos hx, decide_eq_true hx]; exact ⟨rfl, rfl, rfl, rfl⟩
      · rw [if_neg hx, decide_eq_false hx]; exact ⟨rfl, rfl, rfl, rfl⟩
    · intro jq ez hz
      rw [List.getElem?_map, List.getElem?_eraseIdx] at hz
      rw [qLv_11, qLv_12, qLv_13, qLv_14, qU_n (by omega), qU_n (by omega), qU_n (by omega)]
      unfold qBF
      rw [if_neg (by omega)]
      by_cases hj : jq < tI Aq sq
      · rw [if_pos hj] at hz
        rw [if_pos (by omega)]
        have hj2 : jq < (tL Aq (4 + sq)).length := by omega
        rw [List.getElem?_eq_getElem hj2] at hz
        cases hz
        obtain ⟨a1, a2, a3, a4⟩ := hcr jq hj2
        have hj3 : jq + 1 < (tL Aq (4 + sq)).length := by omega
        obtain ⟨b1, b2, b3, b4⟩ := hcr (jq + 1) hj3
        rw [show qFr Aq sq + 1 + jq - 1 = qFr Aq sq + jq by omega, show qFr Aq sq + 1 + jq = qFr Aq sq + (jq + 1) by omega]
        exact ⟨a1, b2, b3, b4⟩
      · rw [if_neg hj] at hz
        rw [if_neg (by omega)]
        obtain ⟨ky, hy, rfl⟩ := Option.map_eq_some_iff.mp hz
        obtain ⟨hj3, hj4⟩ := List.getElem?_eq_some_iff.mp hy
        obtain ⟨b1, b2, b3, b4⟩ := hcr (jq + 1) hj3
        rw [hj4] at b1
        rw [show qFr Aq sq + 1 + jq = qFr Aq sq + (jq + 1) by omega]
        exact ⟨b1, b2, b3, b4⟩
    · exact repAt_eq r3 fun iq a b => hun iq (by omega)
    · exact repAt_eq r4 fun iq a b => hun iq (by omega)
end QA

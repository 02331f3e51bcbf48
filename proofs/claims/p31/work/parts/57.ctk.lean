/-! the pure part: tick() of the class -/
section QA
variable {so : Nat → Nat} {g : pwG} {bq : Nat} {xq : Int64} {sc : Nat → Int32} {Rq Rz : Nat → Nat → Int32} {w : pwW} {Aq Bq : TA} {sq : Nat}
theorem fP_same (h1 : tL Bq = tL Aq) (h2 : tC Bq = tC Aq) (h3 : tN Bq = tN Aq) {jq : Nat} : fP Bq jq = fP Aq jq := fP_eq (by rw [h3]) (by rw [h1]) (fun s2 _ _ => by rw [h1, h2]; exact ⟨rfl, rfl⟩)
theorem fDn_same (h1 : tL Bq = tL Aq) (h2 : tC Bq = tC Aq) {jq : Nat} : fDn Bq jq = fDn Aq jq := fDn_c jq (by rw [h1]) (fun s2 _ => by rw [h1, h2]; exact ⟨rfl, rfl⟩)
theorem wDn_same (h1 : tL Bq = tL Aq) (h2 : tC Bq = tC Aq) {jq : Nat} : wDn Bq jq = wDn Aq jq := wDn_c jq (by rw [h1]) (fun s2 _ => by rw [h1, h2]; exact ⟨rfl, rfl⟩)
theorem fAll_same (h1 : tL Bq = tL Aq) (h2 : tC Bq = tC Aq) (h3 : tN Bq 0 = tN Aq 0) : fAll Bq = fAll Aq := by
  unfold fAll; rw [h1, h3, fDn_same h1 h2]
theorem wAll_same (h1 : tL Bq = tL Aq) (h2 : tC Bq = tC Aq) (h3 : tN Bq 0 = tN Aq 0) : wAll Bq = wAll Aq := by
  unfold wAll; rw [h1, h3, wDn_same h1 h2]
theorem inv_same (h1 : tL Bq = tL Aq) (h2 : tC Bq = tC Aq) (h3 : tN Bq = tN Aq) (h : invT Aq) : invT Bq := by
  obtain ⟨a, b, c⟩ := h
  refine ⟨by rw [h3]; exact a, by rw [wAll_same h1 h2 (by rw [h3]), h3]; exact b, fun sq hs => ?_⟩
  rw [h3] at hs
  have := c sq hs
  unfold invS at this ⊢
  rw [h1, h2, h3, fP_same h1 h2 h3]; exact this
theorem fDn_st : ∀ jq, ∀ eq ∈ fDn Aq jq, ¬ eq.2.1 = zN 3 := by
  intro jq
  induction jq with
  | zero =>
    intro eq h hh
    obtain ⟨kq, -, rfl⟩ := List.mem_map.mp h
    exact absurd (show zN 0 = zN 3 from hh) (by decide)
  | succ jq ih =>
    intro eq h
    rcases List.mem_append.mp h with h | h
    · rcases List.mem_append.mp h with h | h <;> obtain ⟨kq, -, rfl⟩ := List.mem_map.mp h <;> intro hh
      · exact absurd (show zN 2 = zN 3 from hh) (by decide)
      · exact absurd (show zN 1 = zN 3 from hh) (by decide)
    · exact ih eq h
theorem come_len (hI : invT Aq) : (tL Aq 0).length + (fDn Aq (tN Aq 0)).length = tN Aq 1 := by
  have h := len_split hI (Nat.le_refl _)
  rwa [fP_S, List.length_map] at h
theorem c_come2 (hI : invT Aq) (hT : repT Aq xq sc Rq) : (∀ jq, jq < (tL Aq 0).length → Rq 12 jq = zN 3 ∧ Rq 13 jq = zM) ∧ ((tL Aq 0).length = tN Aq 1 ∨ ¬ Rq 12 (tL Aq 0).length = zN 3) := by
  have hl := come_len hI
  have r := hT.2
  unfold fAll at r
  rw [repAt_app] at r
  obtain ⟨r1, r2⟩ := r
  constructor
  · intro jq hj
    obtain ⟨eq, he, e1, e2, e3, e4⟩ := rep_get (iq := jq) r1 (by rw [List.length_map]; exact hj)
    rw [Nat.zero_add] at e2 e3
    obtain ⟨kq, -, rfl⟩ := List.mem_map.mp he
    exact ⟨e2, e3⟩
  · by_cases hx : (tL Aq 0).length = tN Aq 1
    · exact Or.inl hx
    · right
      obtain ⟨eq, he, e1, e2, e3, e4⟩ := rep_head r2 (fun hh => by
        have h9 := congrArg List.length hh
        have : ([] : List Ent).length = 0 := rfl
        omega)
      rw [Nat.zero_add, List.length_map] at e2
      rw [e2]
      exact fDn_st _ eq he
theorem c_come (hI : invT Aq) (hT : repT Aq xq sc Rq) : pwX so 49 0 [some (.ref bq)] [] g (mkT bq xq sc Rq w) = some (.inl (some (.int (zN (tL Aq 0).length))), g, (mkT bq xq sc Rq w)) := by
  have hl := come_len hI
  obtain ⟨a, c⟩ := c_come2 hI hT
  exact m_come hT.1.1.2.2.1 hI.1.2.1 (by omega) a c
theorem repT_time (hT : repT Aq xq sc Rq) : repT (tTime Aq) xq (upd sc 2 (sc 2 + zN 1)) Rq := by
  obtain ⟨⟨⟨n1, n2, n3, n4, n5, n6⟩, n7, n8⟩, r⟩ := hT
  refine ⟨⟨⟨n1, ?_, ?_, ?_, ?_, ?_⟩, n7, n8⟩, by rw [fAll_same (Bq := tTime Aq) (Aq := Aq) rfl rfl rfl]; exact r⟩
  · rw [qU_n (by decide)]; exact n2
  · rw [qU_n (by decide)]; exact n3
  · rw [qU_s, n4]; rfl
  · rw [qU_n (by decide)]; exact n5
  · rw [qU_n (by decide)]; exact n6
theorem inv_Time (h : invT Aq) : invT (tTime Aq) := inv_same (Aq := Aq) (Bq := tTime Aq) rfl rfl rfl h
theorem ot_L {kq : Nat} {ks : List Nat} {jq : Nat} (h : jq ≠ 1) : tL (tOt Aq kq ks) jq = tL Aq jq := by
  show va_up (tL Aq) 1 ks jq = _
  exact va_up_ne _ _ h
theorem ot_L1 {kq : Nat} {ks : List Nat} : tL (tOt Aq kq ks) 1 = ks := by
  show va_up (tL Aq) 1 ks 1 = _
  exact va_up_self _ _ _
theorem ot_C {kq : Nat} {ks : List Nat} {jq : Nat} (h : jq ≠ 0) : tC (tOt Aq kq ks) jq = tC Aq jq := by
  show va_up (tC Aq) 0 _ jq = _
  exact va_up_ne _ _ h
theorem ot_C0 {kq : Nat} {ks : List Nat} : tC (tOt Aq kq ks) 0 = tC Aq 0 ++ [(0, kq)] := by
  show va_up (tC Aq) 0 _ 0 = _
  exact va_up_self _ _ _
theorem ot_fP {kq : Nat} {ks : List Nat} {jq : Nat} (h : 0 < jq) : fP (tOt Aq kq ks) jq = fP Aq jq :=
  fP_eq rfl (ot_L (by decide)) (fun s2 a _ => ⟨ot_L (by omega), ot_C (by omega)⟩)
theorem ot_wP {kq : Nat} {ks : List Nat} {jq : Nat} (h : 0 < jq) : wP (tOt Aq kq ks) jq = wP Aq jq :=
  wP_eq rfl (ot_L (by decide)) (fun s2 a _ => ⟨ot_L (by omega), ot_C (by omega)⟩)
theorem ot_fP0 {kq : Nat} {ks : List Nat} (h : 0 < tN Aq 0) : fP (tOt Aq kq ks) 0 = fP Aq 0 ++ [eCe 0 (0, kq)] := by
  rw [fP_s (Aq := tOt Aq kq ks) (sq := 0) h, fP_s (Aq := Aq) (sq := 0) h, ot_fP (by decide), List.append_assoc]
  congr 1
  unfold fSt
  have h1 : tL (tOt Aq kq ks) (4 + 0) = tL Aq (4 + 0) := ot_L (by decide)
  have h2 : tC (tOt Aq kq ks) 0 = tC Aq 0 ++ [(0, kq)] := ot_C0
  rw [h1, h2, List.map_append, List.append_assoc]; rfl
theorem ot_wAll {kq : Nat} {ks : List Nat} (h : 0 < tN Aq 0) (h1 : tL Aq 1 = kq :: ks) : wAll (tOt Aq kq ks) = wAll Aq := by
  rw [wDn_eq (Aq := tOt Aq kq ks) 1 h, wDn_eq (Aq := Aq) 1 h, ot_wP (by decide)]
  congr 1
  show tL (tOt Aq kq ks) (4 + 0) ++ (tC (tOt Aq kq ks) 0).map Prod.snd ++ tL (tOt Aq kq ks) 1 = tL Aq (4 + 0) ++ (tC Aq 0).map Prod.snd ++ tL Aq 1
  have h2 : tL (tOt Aq kq ks) (4 + 0) = tL Aq (4 + 0) := ot_L (by decide)
  have h3 : tC (tOt Aq kq ks) 0 = tC Aq 0 ++ [(0, kq)] := ot_C0
  have h4 : tL (tOt Aq kq ks) 1 = ks := ot_L1
  rw [h2, h3, h4, h1, List.map_append]
  simp only [List.append_assoc, List.map_cons, List.map_nil, List.singleton_append]
theorem inv_Out (h : invT Aq) : invT (tOut Aq) := by
  unfold tOut
  split
  · exact h
  · next kq ks h1 =>
    split
    · next hx =>
      obtain ⟨a, b, c⟩ := h
      refine ⟨a, by rw [ot_wAll hx.1 h1]; exact b, fun sq hs => ?_⟩
      obtain ⟨i1, i2, i3, i4⟩ := c sq hs
      have e1 : tL (tOt Aq kq ks) (4 + sq) = tL Aq (4 + sq) := ot_L (by omega)
      have e2 : tL (tOt Aq kq ks) (8 + sq) = tL Aq (8 + sq) := ot_L (by omega)
      refine ⟨i1, by rw [e1]; exact i2, ?_, by rw [e2, ot_fP (by omega)]; exact i4⟩
      by_cases h0 : sq = 0
      · subst h0
        have e3 : tC (tOt Aq kq ks) 0 = tC Aq 0 ++ [(0, kq)] := ot_C0
        rw [e3]
        exact cDown_snoc i3 (by show 0 < tN Aq (4 + 0); omega) hx.2
      · have e3 : tC (tOt Aq kq ks) sq = tC Aq sq := ot_C h0
        rw [e3]; exact i3
    · exact h
theorem tOut_N : tN (tOut Aq) = tN Aq := by unfold tOut; split; rfl; split <;> rfl
theorem inv_Tick (h : invT Aq) : invT (tTick Aq) := inv_Out (inv_Down (tN Aq 0) (tTime Aq) (Nat.le_refl _) (inv_Time h)).1
theorem tTick_N (h : invT Aq) : tN (tTick Aq) = tN Aq := by
  unfold tTick
  rw [tOut_N, (inv_Down (tN Aq 0) (tTime Aq) (Nat.le_refl _) (inv_Time h)).2]; rfl
theorem zN_subm {aq : Nat} : zN aq - zN 1 = zN aq + zM := by rw [Int32.sub_eq_add_neg, zN_neg1]
theorem c_out (hI : invT Aq) (hT : repT Aq xq sc Rq) (o3 o4 : Option Value) : ∃ R1, repT (tOut Aq) xq sc R1 ∧ pwX so 71 25 [some (.ref bq), some (.int (zN (fP Aq 0).length)), some (.int zM), o3, o4] [] g (mkT bq xq sc Rq w) = some (.inl none, g, (mkT bq xq sc R1 w)) := by
  have h4 := hI.1
  have hl := len_split hI (Nat.zero_le _)
  have hD : (fDn Aq 0).length = (tL Aq 1).length := by unfold fDn; rw [List.length_map]
  have hr : repAt 0 (fP Aq 0 ++ fDn Aq 0) Rq := by rw [← fDn_eq 0 (Nat.zero_le _)]; exact hT.2
  obtain ⟨r1, r2⟩ := repAt_app.mp hr
  rw [Nat.zero_add] at r2
  obtain ⟨n1, n2, n3, n4, n5, n6⟩ := hT.1.1
  unfold tOut
  split
  · next h1 =>
    rw [h1] at hD
    have hD : (fDn Aq 0).length = 0 := hD
    refine ⟨Rq, hT, ?_⟩
    by_cases h0 : tN Aq 0 = 0
    · simp (disch := omega) only [s_X5_tick_25, s_X5_tick_26, s_X5_tick_29, s_X5_tick_132, s_X5_tick_133, s_X5_tick_136, s_X5_tick_139, s_X5_tick_142, s_X5_tick_143, s_X5_tick_144, s_X5_tick_147, s_X5_tick_150, s_X5_tick_151, s_X5_tick_152, s_X5_tick_153, s_X5_tick_154, s_X5_tick_155, s_X5_tick_156, s_X5_tick_159, s_X5_tick_162, s_X5_tick_163, s_X5_tick_164, s_X5_tick_165, s_X5_tick_166, s_X5_tick_167, s_X5_tick_170, ↓tg0, ↓tg1, ↓tg2, ↓tg3, ↓tg4, ↓tg5, ↓tg6, ↓tg7, ↓tg8, ↓tg9, ↓tg10, ↓tg11, ↓ts0, ↓ts1, ↓ts2, ↓ts3, ↓ts4, ↓ts5, ↓ts6, ↓ts7, ↓tp_x, ↓tp1, ↓tp2, ↓tp3, ↓tp4, ↓tps, mkT_i, mkT_is, cond_true, cond_false, qAv, qAn, qV_vv, q_atT, q_putT, qz4, qz40, qz10, qRd_in, qRd_out, qRd_m, qWr_in, qU_s, qU_n, qV_s, qV_n, zN_neg1, nL0, nL1, nL2, nL3, nL4, nL5, nL6, nL7, nL8, nL9, nL10, nL11, nL12, nL13, nL14, nL20, nL21, nL22, nL23, nL25, nL32, nL33, nL39, nL40, nL43, nL44, nL99, nL100, nL120, nL216, nL217, nL218, nL219, nL220, nL221, nL500, nL999, nL1000, nL10000, nL100000, sh33, zN_lt, zN_le, zN_eq, zN_ge0, zN_lt0, zN_nm, zN_mn, zN_mlt, zN_ltm, zN_lem, zN_mle, zN_m1, zN_m2, zN_addm, zN_ofNat, zN_beq, zN_add, zN_sub, zN_mul, zN_rem, qT_lt, qF_lt, qT_le, qF_le, qT_eq, qF_eq, ↓reduceIte, and_true, true_and, false_and, and_false, not_true_eq_false, not_false_eq_true, decide_true, decide_false, Bool.true_or, Bool.or_true, Bool.false_or, Bool.or_false, cond_true, cond_false, n2, n3, h0]
    · simp (disch := omega) only [s_X5_tick_25, s_X5_tick_26, s_X5_tick_29, s_X5_tick_132, s_X5_tick_133, s_X5_tick_136, s_X5_tick_139, s_X5_tick_142, s_X5_tick_143, s_X5_tick_144, s_X5_tick_147, s_X5_tick_150, s_X5_tick_151, s_X5_tick_152, s_X5_tick_153, s_X5_tick_154, s_X5_tick_155, s_X5_tick_156, s_X5_tick_159, s_X5_tick_162, s_X5_tick_163, s_X5_tick_164, s_X5_tick_165, s_X5_tick_166, s_X5_tick_167, s_X5_tick_170, ↓tg0, ↓tg1, ↓tg2, ↓tg3, ↓tg4, ↓tg5, ↓tg6, ↓tg7, ↓tg8, ↓tg9, ↓tg10, ↓tg11, ↓ts0, ↓ts1, ↓ts2, ↓ts3, ↓ts4, ↓ts5, ↓ts6, ↓ts7, ↓tp_x, ↓tp1, ↓tp2, ↓tp3, ↓tp4, ↓tps, mkT_i, mkT_is, cond_true, cond_false, qAv, qAn, qV_vv, q_atT, q_putT, qz4, qz40, qz10, qRd_in, qRd_out, qRd_m, qWr_in, qU_s, qU_n, qV_s, qV_n, zN_neg1, nL0, nL1, nL2, nL3, nL4, nL5, nL6, nL7, nL8, nL9, nL10, nL11, nL12, nL13, nL14, nL20, nL21, nL22, nL23, nL25, nL32, nL33, nL39, nL40, nL43, nL44, nL99, nL100, nL120, nL216, nL217, nL218, nL219, nL220, nL221, nL500, nL999, nL1000, nL10000, nL100000, sh33, zN_lt, zN_le, zN_eq, zN_ge0, zN_lt0, zN_nm, zN_mn, zN_mlt, zN_ltm, zN_lem, zN_mle, zN_m1, zN_m2, zN_addm, zN_ofNat, zN_beq, zN_add, zN_sub, zN_mul, zN_rem, qT_lt, qF_lt, qT_le, qF_le, qT_eq, qF_eq, ↓reduceIte, and_true, true_and, false_and, and_false, not_true_eq_false, not_false_eq_true, decide_true, decide_false, Bool.true_or, Bool.or_true, Bool.false_or, Bool.or_false, cond_true, cond_false, n2, n3]
  · next kq ks h1 =>
    rw [h1, List.length_cons] at hD
    by_cases h0 : tN Aq 0 = 0
    · rw [if_neg (by omega)]
      refine ⟨Rq, hT, ?_⟩
      simp (disch := omega) only [s_X5_tick_25, s_X5_tick_26, s_X5_tick_29, s_X5_tick_132, s_X5_tick_133, s_X5_tick_136, s_X5_tick_139, s_X5_tick_142, s_X5_tick_143, s_X5_tick_144, s_X5_tick_147, s_X5_tick_150, s_X5_tick_151, s_X5_tick_152, s_X5_tick_153, s_X5_tick_154, s_X5_tick_155, s_X5_tick_156, s_X5_tick_159, s_X5_tick_162, s_X5_tick_163, s_X5_tick_164, s_X5_tick_165, s_X5_tick_166, s_X5_tick_167, s_X5_tick_170, ↓tg0, ↓tg1, ↓tg2, ↓tg3, ↓tg4, ↓tg5, ↓tg6, ↓tg7, ↓tg8, ↓tg9, ↓tg10, ↓tg11, ↓ts0, ↓ts1, ↓ts2, ↓ts3, ↓ts4, ↓ts5, ↓ts6, ↓ts7, ↓tp_x, ↓tp1, ↓tp2, ↓tp3, ↓tp4, ↓tps, mkT_i, mkT_is, cond_true, cond_false, qAv, qAn, qV_vv, q_atT, q_putT, qz4, qz40, qz10, qRd_in, qRd_out, qRd_m, qWr_in, qU_s, qU_n, qV_s, qV_n, zN_neg1, nL0, nL1, nL2, nL3, nL4, nL5, nL6, nL7, nL8, nL9, nL10, nL11, nL12, nL13, nL14, nL20, nL21, nL22, nL23, nL25, nL32, nL33, nL39, nL40, nL43, nL44, nL99, nL100, nL120, nL216, nL217, nL218, nL219, nL220, nL221, nL500, nL999, nL1000, nL10000, nL100000, sh33, zN_lt, zN_le, zN_eq, zN_ge0, zN_lt0, zN_nm, zN_mn, zN_mlt, zN_ltm, zN_lem, zN_mle, zN_m1, zN_m2, zN_addm, zN_ofNat, zN_beq, zN_add, zN_sub, zN_mul, zN_rem, qT_lt, qF_lt, qT_le, qF_le, qT_eq, qF_eq, ↓reduceIte, and_true, true_and, false_and, and_false, not_true_eq_false, not_false_eq_true, decide_true, decide_false, Bool.true_or, Bool.or_true, Bool.false_or, Bool.or_false, cond_true, cond_false, n2, n3, h0]
    · have hs : 0 < tN Aq 0 := by omega
      obtain ⟨⟨⟨j1, j2⟩, -⟩, -, j3, -⟩ := hI.2.2 0 hs
      have hc := c_free (jq := 0) h4.1 hs j3 j2 r1
      have hic : pwX so 54 0 [some (.ref bq), some (.int (zN (fP Aq 0).length - zN 1)), some (.int (zN 0)), some (.int (zN 0))] [] g (mkT bq xq sc Rq w) = some (.inl (some (.int (if 0 < (fP Aq 0).length ∧ qInC Rq ((fP Aq 0).length - 1) (zN 0) (zN 0) then zN 1 else zN 0))), g, (mkT bq xq sc Rq w)) := by
        by_cases hz : 0 < (fP Aq 0).length
        · rw [zN_sub (by omega), m_isInCell (by omega)]
          by_cases hy : qInC Rq ((fP Aq 0).length - 1) (zN 0) (zN 0)
          · rw [if_pos hy, if_pos ⟨hz, hy⟩]
          · rw [if_neg hy, if_neg (fun h => hy h.2)]
        · rw [if_neg (fun h => hz h.1), show (fP Aq 0).length = 0 by omega, zN_m1, m_isInCellM]
      by_cases hx : ∀ eq ∈ tC Aq 0, 0 < eq.1
      · rw [if_pos ⟨hs, hx⟩]
        rw [if_neg (fun h => hc.mp h hx)] at hic
        refine ⟨va_up (va_up (va_up Rq 12 (upd (Rq 12) (fP Aq 0).length (zN 1))) 13 (upd (Rq 13) (fP Aq 0).length (zN 0))) 14 (upd (Rq 14) (fP Aq 0).length (zN 0)), ?_, ?_⟩
        · refine ⟨repN_eq hT.1 rfl rfl rfl rfl rfl (fun s2 _ => ot_L (by omega)) (fun jq hj => by rw [qV_n (by omega), qV_n (by omega), qV_n (by omega)]), ?_⟩
          have hun : ∀ iq, iq ≠ (fP Aq 0).length → va_up (va_up (va_up Rq 12 (upd (Rq 12) (fP Aq 0).length (zN 1))) 13 (upd (Rq 13) (fP Aq 0).length (zN 0))) 14 (upd (Rq 14) (fP Aq 0).length (zN 0)) 11 iq = Rq 11 iq ∧ va_up (va_up (va_up Rq 12 (upd (Rq 12) (fP Aq 0).length (zN 1))) 13 (upd (Rq 13) (fP Aq 0).length (zN 0))) 14 (upd (Rq 14) (fP Aq 0).length (zN 0)) 12 iq = Rq 12 iq ∧ va_up (va_up (va_up Rq 12 (upd (Rq 12) (fP Aq 0).length (zN 1))) 13 (upd (Rq 13) (fP Aq 0).length (zN 0))) 14 (upd (Rq 14) (fP Aq 0).length (zN 0)) 13 iq = Rq 13 iq ∧ va_up (va_up (va_up Rq 12 (upd (Rq 12) (fP Aq 0).length (zN 1))) 13 (upd (Rq 13) (fP Aq 0).length (zN 0))) 14 (upd (Rq 14) (fP Aq 0).length (zN 0)) 14 iq = Rq 14 iq := by
            intro iq hx
            simp (disch := omega) only [qV_n, qV_s, qU_n, and_self]
          rw [fDn_eq 0 (Nat.zero_le _), ot_fP0 hs, repAt_app, repAt_app, List.length_append, Nat.zero_add, Nat.zero_add]
          have r3 := r2
          unfold fDn at r3
          rw [h1, List.map_cons] at r3
          refine ⟨⟨repAt_eq r1 fun iq a c => hun iq (by omega), repAt_one ?_⟩, ?_⟩
          · have h9 := (r3 0 (eSt kq) rfl).1
            rw [Nat.add_zero] at h9
            simp (disch := omega) only [qV_n, qV_s, qU_s]
            exact ⟨h9, rfl, rfl, rfl⟩
          · have h2 : fDn (tOt Aq kq ks) 0 = ks.map eSt := congrArg (List.map eSt) (show tL (tOt Aq kq ks) 1 = ks from ot_L1)
            rw [h2]
            intro iq eq he
            have h3 := r3 (iq + 1) eq (by rw [List.getElem?_cons_succ]; exact he)
            have h5 : (fP Aq 0).length + [eCe 0 (0, kq)].length + iq = (fP Aq 0).length + (iq + 1) := by
              show (fP Aq 0).length + 1 + iq = _; omega
            rw [h5]
            obtain ⟨b1, b2, b3, b4⟩ := hun ((fP Aq 0).length + (iq + 1)) (by omega)
            rw [b1, b2, b3, b4]; exact h3
        · simp (disch := omega) only [s_X5_tick_25, s_X5_tick_26, s_X5_tick_29, s_X5_tick_132, s_X5_tick_133, s_X5_tick_136, s_X5_tick_139, s_X5_tick_142, s_X5_tick_143, s_X5_tick_144, s_X5_tick_147, s_X5_tick_150, s_X5_tick_151, s_X5_tick_152, s_X5_tick_153, s_X5_tick_154, s_X5_tick_155, s_X5_tick_156, s_X5_tick_159, s_X5_tick_162, s_X5_tick_163, s_X5_tick_164, s_X5_tick_165, s_X5_tick_166, s_X5_tick_167, s_X5_tick_170, ↓tg0, ↓tg1, ↓tg2, ↓tg3, ↓tg4, ↓tg5, ↓tg6, ↓tg7, ↓tg8, ↓tg9, ↓tg10, ↓tg11, ↓ts0, ↓ts1, ↓ts2, ↓ts3, ↓ts4, ↓ts5, ↓ts6, ↓ts7, ↓tp_x, ↓tp1, ↓tp2, ↓tp3, ↓tp4, ↓tps, mkT_i, mkT_is, cond_true, cond_false, qAv, qAn, qV_vv, q_atT, q_putT, qz4, qz40, qz10, qRd_in, qRd_out, qRd_m, qWr_in, qU_s, qU_n, qV_s, qV_n, zN_neg1, nL0, nL1, nL2, nL3, nL4, nL5, nL6, nL7, nL8, nL9, nL10, nL11, nL12, nL13, nL14, nL20, nL21, nL22, nL23, nL25, nL32, nL33, nL39, nL40, nL43, nL44, nL99, nL100, nL120, nL216, nL217, nL218, nL219, nL220, nL221, nL500, nL999, nL1000, nL10000, nL100000, sh33, zN_lt, zN_le, zN_eq, zN_ge0, zN_lt0, zN_nm, zN_mn, zN_mlt, zN_ltm, zN_lem, zN_mle, zN_m1, zN_m2, zN_addm, zN_ofNat, zN_beq, zN_add, zN_mul, zN_rem, qT_lt, qF_lt, qT_le, qF_le, qT_eq, qF_eq, ↓reduceIte, and_true, true_and, false_and, and_false, not_true_eq_false, not_false_eq_true, decide_true, decide_false, Bool.true_or, Bool.or_true, Bool.false_or, Bool.or_false, cond_true, cond_false, zN_le1, n2, n3, hic, m_stand]
      · rw [if_neg (fun h => hx h.2)]
        rw [if_pos (hc.mpr hx)] at hic
        refine ⟨Rq, hT, ?_⟩
        simp (disch := omega) only [s_X5_tick_25, s_X5_tick_26, s_X5_tick_29, s_X5_tick_132, s_X5_tick_133, s_X5_tick_136, s_X5_tick_139, s_X5_tick_142, s_X5_tick_143, s_X5_tick_144, s_X5_tick_147, s_X5_tick_150, s_X5_tick_151, s_X5_tick_152, s_X5_tick_153, s_X5_tick_154, s_X5_tick_155, s_X5_tick_156, s_X5_tick_159, s_X5_tick_162, s_X5_tick_163, s_X5_tick_164, s_X5_tick_165, s_X5_tick_166, s_X5_tick_167, s_X5_tick_170, ↓tg0, ↓tg1, ↓tg2, ↓tg3, ↓tg4, ↓tg5, ↓tg6, ↓tg7, ↓tg8, ↓tg9, ↓tg10, ↓tg11, ↓ts0, ↓ts1, ↓ts2, ↓ts3, ↓ts4, ↓ts5, ↓ts6, ↓ts7, ↓tp_x, ↓tp1, ↓tp2, ↓tp3, ↓tp4, ↓tps, mkT_i, mkT_is, cond_true, cond_false, qAv, qAn, qV_vv, q_atT, q_putT, qz4, qz40, qz10, qRd_in, qRd_out, qRd_m, qWr_in, qU_s, qU_n, qV_s, qV_n, zN_neg1, nL0, nL1, nL2, nL3, nL4, nL5, nL6, nL7, nL8, nL9, nL10, nL11, nL12, nL13, nL14, nL20, nL21, nL22, nL23, nL25, nL32, nL33, nL39, nL40, nL43, nL44, nL99, nL100, nL120, nL216, nL217, nL218, nL219, nL220, nL221, nL500, nL999, nL1000, nL10000, nL100000, sh33, zN_lt, zN_le, zN_eq, zN_ge0, zN_lt0, zN_nm, zN_mn, zN_mlt, zN_ltm, zN_lem, zN_mle, zN_m1, zN_m2, zN_addm, zN_ofNat, zN_beq, zN_add, zN_mul, zN_rem, qT_lt, qF_lt, qT_le, qF_le, qT_eq, qF_eq, ↓reduceIte, and_true, true_and, false_and, and_false, not_true_eq_false, not_false_eq_true, decide_true, decide_false, Bool.true_or, Bool.or_true, Bool.false_or, Bool.or_false, cond_true, cond_false, zN_le1, n2, n3, hic]
theorem c_tick (hI : invT Aq) (hT : repT Aq xq sc Rq) : ∃ x1 sc1 R1, repT (tTick Aq) x1 sc1 R1 ∧ pwX so 71 0 [some (.ref bq), none, none, none, none] [] g (mkT bq xq sc Rq w) = some (.inl none, g, (mkT bq x1 sc1 R1 w)) := by
  have hI1 := inv_Time hI
  have hT1 := repT_time hT
  have a1 := @c_come so g bq xq (upd sc 2 (sc 2 + zN 1)) Rq w (tTime Aq) hI1 hT1
  obtain ⟨x1, R1, b1, b2⟩ := @c_down so g bq (upd sc 2 (sc 2 + zN 1)) w (tN Aq 0) (tTime Aq) xq Rq (Nat.le_refl _) hI1 hT1
  obtain ⟨p3, p4, b3⟩ := b2 none none
  obtain ⟨R2, c1, c2⟩ := @c_out so g bq x1 (upd sc 2 (sc 2 + zN 1)) R1 w (tDown (tN Aq 0) (tTime Aq)) (inv_Down (tN Aq 0) (tTime Aq) (Nat.le_refl _) hI1).1 b1 p3 p4
  refine ⟨x1, _, R2, c1, ?_⟩
  rw [← c2, ← b3, show fP (tTime Aq) (tN Aq 0) = (tL Aq 0).map eCome from fP_S (Aq := tTime Aq), List.length_map]
  have h2 : sc 0 = zN (tN Aq 0) := hT.1.1.2.1
  have h3 : tL (tTime Aq) 0 = tL Aq 0 := rfl
  rw [h3] at a1
  simp (disch := omega) only [s_X5_tick_0, s_X5_tick_1, s_X5_tick_2, s_X5_tick_5, s_X5_tick_6, s_X5_tick_7, s_X5_tick_10, s_X5_tick_11, s_X5_tick_14, s_X5_tick_15, s_X5_tick_16, s_X5_tick_19, s_X5_tick_22, s_X5_tick_23, s_X5_tick_24, ↓tg0, ↓tg1, ↓tg2, ↓tg3, ↓tg4, ↓tg5, ↓tg6, ↓tg7, ↓tg8, ↓tg9, ↓tg10, ↓tg11, ↓ts0, ↓ts1, ↓ts2, ↓ts3, ↓ts4, ↓ts5, ↓ts6, ↓ts7, ↓tp_x, ↓tp1, ↓tp2, ↓tp3, ↓tp4, ↓tps, mkT_i, mkT_is, cond_true, cond_false, qAv, qAn, qV_vv, q_atT, q_putT, qz4, qz40, qz10, qRd_in, qRd_out, qRd_m, qWr_in, qU_s, qU_n, qV_s, qV_n, zN_neg1, nL0, nL1, nL2, nL3, nL4, nL5, nL6, nL7, nL8, nL9, nL10, nL11, nL12, nL13, nL14, nL20, nL21, nL22, nL23, nL25, nL32, nL33, nL39, nL40, nL43, nL44, nL99, nL100, nL120, nL216, nL217, nL218, nL219, nL220, nL221, nL500, nL999, nL1000, nL10000, nL100000, a1, h2, zN_subm]
end QA

/-! the pure part: a tick of the class: joining a crowd, going on, mixing -/
section QA
variable {so : Nat → Nat} {g : pwG} {bq : Nat} {xq : Int64} {sc : Nat → Int32} {Rq Rz : Nat → Nat → Int32} {w : pwW} {Aq Bq : TA} {sq : Nat}
theorem repN_eq (hN : repN Aq xq sc Rq) (h1 : tN Bq = tN Aq) (h2 : tT Bq = tT Aq) (h3 : tX Bq = tX Aq) (h4 : tE Bq = tE Aq) (h5 : tK Bq = tK Aq) (h6 : ∀ s2, s2 < tN Aq 0 → tL Bq (8 + s2) = tL Aq (8 + s2)) (hR : ∀ jq, jq < 11 → Rz jq = Rq jq) : repN Bq xq sc Rz := by
  obtain ⟨n1, n2, n3⟩ := hN
  refine ⟨?_, fun s2 hs2 => ?_, fun kq hk => ?_⟩
  · rw [h1, h2, h3]; exact n1
  · rw [h1] at hs2 ⊢
    rw [h6 s2 hs2, hR 2 (by omega), hR 3 (by omega), hR 4 (by omega), hR 5 (by omega), hR 6 (by omega), hR 7 (by omega), hR 8 (by omega)]
    exact n2 s2 hs2
  · rw [h1] at hk
    rw [h4, h5, hR 9 (by omega), hR 10 (by omega)]
    exact n3 kq hk
theorem c_cells (hT : repT Aq xq sc Rq) (hs : sq < tN Aq 0) : ∀ jq (hj : jq < (tC Aq sq).length), Rq 11 (qN1 Aq sq + jq) = zN ((tC Aq sq)[jq]).2 ∧ Rq 12 (qN1 Aq sq + jq) = zN 1 ∧ Rq 13 (qN1 Aq sq + jq) = zN sq ∧ Rq 14 (qN1 Aq sq + jq) = zN ((tC Aq sq)[jq]).1 := fun jq hj =>
  ((c_split hs).mp hT.2).2.2.1 jq (eCe sq (tC Aq sq)[jq]) (by rw [List.getElem?_map, List.getElem?_eq_getElem hj]; rfl)
theorem rep_setC {es : List (Nat × Nat)} (h4 : tN Aq 0 ≤ 4) (hT : repT Aq xq sc Rq) (hs : sq < tN Aq 0) (hl : es.length = (tC Aq sq).length) (hR : ∀ jq, jq < 11 ∨ jq = 12 ∨ jq = 13 → Rz jq = Rq jq) (hR2 : ∀ jq, jq < qN1 Aq sq ∨ qN2 Aq sq ≤ jq → Rz 11 jq = Rq 11 jq ∧ Rz 14 jq = Rq 14 jq) (hR3 : ∀ jq (hj : jq < es.length), Rz 11 (qN1 Aq sq + jq) = zN (es[jq]).2 ∧ Rz 14 (qN1 Aq sq + jq) = zN (es[jq]).1) : repT (tSetC Aq sq es) xq sc Rz := by
  have ho : onlyS sq Aq (tSetC Aq sq es) := only_C
  have hc := c_cells hT hs
  obtain ⟨d0, d1, d2⟩ := qN_e Aq sq
  obtain ⟨r1, r2, r3, r4⟩ := (c_split hs).mp hT.2
  refine ⟨repN_eq hT.1 rfl rfl rfl rfl rfl (fun _ _ => rfl) (fun jq hj => hR jq (Or.inl hj)), ?_⟩
  have e0 : qFr (tSetC Aq sq es) sq = qFr Aq sq := by unfold qFr; rw [only_fP ho h4 (Nat.lt_add_one _)]
  have e1 : qN1 (tSetC Aq sq es) sq = qN1 Aq sq := by rw [(qN_e (tSetC Aq sq es) sq).2.1, e0, d1]; rfl
  have e3 : tC (tSetC Aq sq es) sq = es := va_up_self _ _ _
  have e2 : qN2 (tSetC Aq sq es) sq = qN2 Aq sq := by rw [(qN_e (tSetC Aq sq es) sq).2.2, e1, e3, d2, hl]
  have hun : ∀ iq, iq < qN1 Aq sq ∨ qN2 Aq sq ≤ iq → Rz 11 iq = Rq 11 iq ∧ Rz 12 iq = Rq 12 iq ∧ Rz 13 iq = Rq 13 iq ∧ Rz 14 iq = Rq 14 iq := fun iq hq => by
    obtain ⟨a, c⟩ := hR2 iq hq
    rw [hR 12 (by omega), hR 13 (by omega)]
    exact ⟨a, rfl, rfl, c⟩
  rw [c_split (Aq := tSetC Aq sq es) hs, e0, e1, e2, e3, only_fP ho h4 (Nat.lt_add_one _), only_fD ho (by omega) (Nat.le_refl _)]
  refine ⟨repAt_eq r1 fun iq a c => hun iq (by omega), repAt_eq r2 fun iq a c => hun iq (by rw [List.length_map] at c; have e5 : tL (tSetC Aq sq es) (4 + sq) = tL Aq (4 + sq) := rfl; rw [e5] at c; omega), ?_, repAt_eq r4 fun iq a c => hun iq (by omega)⟩
  intro jq ez hz
  obtain ⟨ey, hy, rfl⟩ := Option.map_eq_some_iff.mp ((List.getElem?_map).symm.trans hz)
  obtain ⟨hj, rfl⟩ := List.getElem?_eq_some_iff.mp hy
  obtain ⟨a1, a2⟩ := hR3 jq hj
  obtain ⟨b1, b2, b3, b4⟩ := hc jq (by omega)
  rw [hR 12 (by omega), hR 13 (by omega)]
  exact ⟨a1, b2, b3, a2⟩
theorem c_mv (hI : invT Aq) (hT : repT Aq xq sc Rq) (hs : sq < tN Aq 0) : ∃ R1, repT (tMv Aq sq) xq sc R1 ∧ pwX so 79 0 [some (.ref bq), some (.int (zN sq)), some (.int (zN (qN1 Aq sq))), some (.int (zN (qN2 Aq sq))), none, none, none] [] g (mkT bq xq sc Rq w) = some (.inl none, g, (mkT bq xq sc R1 w)) := by
  have hl := c_len hI hs
  have h4 := hI.1
  have hc := c_cells hT hs
  obtain ⟨d0, d1, d2⟩ := qN_e Aq sq
  obtain ⟨⟨⟨i1, i2⟩, ⟨i3, i4⟩, i5, i6, i7, i8⟩, i9, i10, i11⟩ := hI.2.2 sq hs
  obtain ⟨fz, f1, f2, f3⟩ := @m_moveOn so g bq xq sc Rq w sq (qN1 Aq sq) (qN2 Aq sq) (tN Aq (4 + sq)) (tC Aq sq) (by omega) (hT.1.2.1 sq hs).1 i2 (by omega) i10 d2.symm (fun jq hj => (hc jq hj).2.2.2)
  refine ⟨va_up Rq 14 fz, ?_, f3⟩
  refine rep_setC h4.1 hT hs mvC_len (fun jq hj => qV_n (by omega)) (fun jq hj => ⟨by rw [qV_n (by omega)], by rw [qV_s]; exact f2 jq hj⟩) (fun jq hj => ?_)
  rw [qV_n (by omega), qV_s]
  have hj2 : jq < (tC Aq sq).length := by rw [mvC_len] at hj; exact hj
  refine ⟨?_, f1 jq hj2 hj⟩
  rw [(hc jq hj2).1]
  have h5 := congrArg (fun ls : List Nat => ls[jq]?) (@mvC_snd (tC Aq sq) (tN Aq (4 + sq)))
  simp only [List.getElem?_map, List.getElem?_eq_getElem hj, List.getElem?_eq_getElem hj2, Option.map_some, Option.some.injEq] at h5
  rw [h5]
theorem c_mx (hI : invT Aq) (hT : repT Aq xq sc Rq) (hs : sq < tN Aq 0) : ∃ R1, repT (tSetC Aq sq (mxC (tC Aq sq))) xq sc R1 ∧ pwX so 80 0 [some (.ref bq), some (.int (zN (qN1 Aq sq))), some (.int (zN (qN2 Aq sq))), none] [] g (mkT bq xq sc Rq w) = some (.inl none, g, (mkT bq xq sc R1 w)) := by
  have hl := c_len hI hs
  have h4 := hI.1
  have hc := c_cells hT hs
  obtain ⟨d0, d1, d2⟩ := qN_e Aq sq
  obtain ⟨⟨⟨i1, i2⟩, ⟨i3, i4⟩, i5, i6, i7, i8⟩, i9, i10, i11⟩ := hI.2.2 sq hs
  obtain ⟨fz, f1, f2, f3⟩ := @m_mix so g bq xq sc Rq w (qN1 Aq sq) (qN2 Aq sq) (tC Aq sq) (by omega) (fun eq he => by
    have h5 := cDown_lt i10 eq he
    refine ⟨by omega, ?_⟩
    have h6 : eq.2 < tN Aq 1 := hI.2.1.2.2 _ (by
      rw [wDn_eq (sq + 1) hs]
      refine List.mem_append_right _ ?_
      show eq.2 ∈ tL Aq (4 + sq) ++ (tC Aq sq).map Prod.snd ++ wDn Aq sq
      exact List.mem_append_left _ (List.mem_append_right _ (List.mem_map_of_mem he)))
    omega) d2.symm (fun jq hj => ⟨(hc jq hj).2.2.2, (hc jq hj).1⟩)
  refine ⟨va_up Rq 11 fz, ?_, f3⟩
  refine rep_setC h4.1 hT hs mxC_len (fun jq hj => qV_n (by omega)) (fun jq hj => ⟨by rw [qV_s]; exact f2 jq hj, by rw [qV_n (by omega)]⟩) (fun jq hj => ?_)
  rw [qV_s, qV_n (by omega)]
  have hj2 : jq < (tC Aq sq).length := by rw [mxC_len] at hj; exact hj
  refine ⟨f1 jq hj2 hj, ?_⟩
  rw [(hc jq hj2).2.2.2]
  have h5 := congrArg (fun ls : List Nat => ls[jq]?) (@mxC_fst (tC Aq sq))
  simp only [List.getElem?_map, List.getElem?_eq_getElem hj, List.getElem?_eq_getElem hj2, Option.map_some, Option.some.injEq] at h5
  rw [h5]
theorem c_jc {e1 : Nat × Nat} {es : List (Nat × Nat)} (hI : invT Aq) (hT : repT Aq xq sc Rq) (hs : sq < tN Aq 0) (hc : tC Aq sq = e1 :: es) : pwX so 78 0 [some (.ref bq), some (.int (zN sq)), some (.int (zN (qN1 Aq sq))), some (.int (zN (qN1 Aq sq - qFr Aq sq)))] [] g (mkT bq xq sc Rq w) = some (.inl (some (.int (if e1.1 + 1 = tN Aq (4 + sq) ∧ (tL Aq (4 + sq)).length < tN Aq (20 + sq) then zN 1 else zN 0))), g, (mkT bq xq sc Rq w)) := by
  have hl := c_len hI hs
  have h4 := hI.1
  have hq := c_cells hT hs 0 (by rw [hc]; exact Nat.zero_lt_succ _)
  obtain ⟨d0, d1, d2⟩ := qN_e Aq sq
  obtain ⟨⟨⟨i1, i2⟩, ⟨i3, i4⟩, i5, i6, i7, i8⟩, i9, i10, i11⟩ := hI.2.2 sq hs
  obtain ⟨s1, s2, s3, s4, s5, s6, s7⟩ := hT.1.2.1 sq hs
  have hl2 : (tC Aq sq).length = es.length + 1 := by rw [hc]; rfl
  have hlt := cDown_lt i10 e1 (by rw [hc]; exact List.mem_cons_self)
  rw [m_joinsCrowd (wd := tN Aq (20 + sq)) (ce := tN Aq (4 + sq)) (by omega) (by omega) s5 s1 (by omega) i8 i1 i2]
  simp only [Nat.add_zero, hc, List.getElem_cons_zero] at hq
  have hP : (qN1 Aq sq - qFr Aq sq < tN Aq (20 + sq) ∧ qInC Rq (qN1 Aq sq) (zN sq) (zN (tN Aq (4 + sq) - 1))) ↔ (e1.1 + 1 = tN Aq (4 + sq) ∧ (tL Aq (4 + sq)).length < tN Aq (20 + sq)) := by
    rw [show qN1 Aq sq - qFr Aq sq = (tL Aq (4 + sq)).length by omega]
    constructor
    · rintro ⟨a1, -, -, a4⟩
      rw [hq.2.2.2, zN_eq (by omega) (by omega)] at a4
      exact ⟨by omega, a1⟩
    · rintro ⟨a1, a2⟩
      exact ⟨a2, hq.2.1, hq.2.2.1, by rw [hq.2.2.2, show tN Aq (4 + sq) - 1 = e1.1 by omega]⟩
  by_cases hh : e1.1 + 1 = tN Aq (4 + sq) ∧ (tL Aq (4 + sq)).length < tN Aq (20 + sq)
  · rw [if_pos hh, if_pos (hP.mpr hh)]
  · rw [if_neg hh, if_neg (fun h => hh (hP.mp h))]
theorem c_join {e1 : Nat × Nat} {es : List (Nat × Nat)} (hI : invT Aq) (hT : repT Aq xq sc Rq) (hs : sq < tN Aq 0) (hc : tC Aq sq = e1 :: es) : repT (tJn Aq sq e1 es) xq sc (va_up (va_up (va_up Rq 12 (upd (Rq 12) (qN1 Aq sq) (zN 2))) 13 (upd (Rq 13) (qN1 Aq sq) (zN sq))) 14 (upd (Rq 14) (qN1 Aq sq) zM)) ∧ qFr (tJn Aq sq e1 es) sq = qFr Aq sq ∧ qN1 (tJn Aq sq e1 es) sq = qN1 Aq sq + 1 ∧ qN2 (tJn Aq sq e1 es) sq = qN2 Aq sq := by
  have h4 := hI.1
  have ho : onlyS sq Aq (tJn Aq sq e1 es) := only_Jn (by omega)
  have hq := c_cells hT hs
  obtain ⟨d0, d1, d2⟩ := qN_e Aq sq
  obtain ⟨r1, r2, r3, r4⟩ := (c_split hs).mp hT.2
  have hl2 : (tC Aq sq).length = es.length + 1 := by rw [hc]; rfl
  have e0 : qFr (tJn Aq sq e1 es) sq = qFr Aq sq := by unfold qFr; rw [only_fP ho h4.1 (Nat.lt_add_one _)]
  have e4 : tL (tJn Aq sq e1 es) (4 + sq) = tL Aq (4 + sq) ++ [e1.2] := va_up_self _ _ _
  have e3 : tC (tJn Aq sq e1 es) sq = es := va_up_self _ _ _
  have e1' : qN1 (tJn Aq sq e1 es) sq = qN1 Aq sq + 1 := by rw [(qN_e (tJn Aq sq e1 es) sq).2.1, e0, d1, e4, List.length_append]; rfl
  have e2 : qN2 (tJn Aq sq e1 es) sq = qN2 Aq sq := by rw [(qN_e (tJn Aq sq e1 es) sq).2.2, e1', e3, d2]; omega
  refine ⟨⟨repN_eq hT.1 rfl rfl rfl rfl rfl (fun s2 hs2 => ho.2.2.2.2 s2 (by omega)) (fun jq hj => by rw [qV_n (by omega), qV_n (by omega), qV_n (by omega)]), ?_⟩, e0, e1', e2⟩
  rw [c_split (Aq := tJn Aq sq e1 es) hs, e0, e1', e2, e3, e4, only_fP ho h4.1 (Nat.lt_add_one _), only_fD ho (by omega) (Nat.le_refl _)]
  have hun : ∀ iq, iq ≠ qN1 Aq sq → va_up (va_up (va_up Rq 12 (upd (Rq 12) (qN1 Aq sq) (zN 2))) 13 (upd (Rq 13) (qN1 Aq sq) (zN sq))) 14 (upd (Rq 14) (qN1 Aq sq) zM) 11 iq = Rq 11 iq ∧ va_up (va_up (va_up Rq 12 (upd (Rq 12) (qN1 Aq sq) (zN 2))) 13 (upd (Rq 13) (qN1 Aq sq) (zN sq))) 14 (upd (Rq 14) (qN1 Aq sq) zM) 12 iq = Rq 12 iq ∧ va_up (va_up (va_up Rq 12 (upd (Rq 12) (qN1 Aq sq) (zN 2))) 13 (upd (Rq 13) (qN1 Aq sq) (zN sq))) 14 (upd (Rq 14) (qN1 Aq sq) zM) 13 iq = Rq 13 iq ∧ va_up (va_up (va_up Rq 12 (upd (Rq 12) (qN1 Aq sq) (zN 2))) 13 (upd (Rq 13) (qN1 Aq sq) (zN sq))) 14 (upd (Rq 14) (qN1 Aq sq) zM) 14 iq = Rq 14 iq := by
    intro iq hx
    simp (disch := omega) only [qV_n, qV_s, qU_n, and_self]
  refine ⟨repAt_eq r1 fun iq a c => hun iq (by omega), ?_, ?_, repAt_eq r4 fun iq a c => hun iq (by omega)⟩
  · rw [List.map_append, repAt_app]
    refine ⟨repAt_eq r2 fun iq a c => hun iq (by rw [List.length_map] at c; omega), ?_⟩
    rw [List.length_map, ← d1]
    refine repAt_one ?_
    have h9 := (hq 0 (by omega)).1
    simp only [Nat.add_zero, hc, List.getElem_cons_zero] at h9
    simp (disch := omega) only [qV_n, qV_s, qU_s]
    exact ⟨h9, rfl, rfl, rfl⟩
  · intro jq ez hz
    obtain ⟨ey, hy, rfl⟩ := Option.map_eq_some_iff.mp ((List.getElem?_map).symm.trans hz)
    obtain ⟨hj, rfl⟩ := List.getElem?_eq_some_iff.mp hy
    have h9 := hq (jq + 1) (by omega)
    simp only [hc, List.getElem_cons_succ] at h9
    obtain ⟨b1, b2, b3, b4⟩ := hun (qN1 Aq sq + 1 + jq) (by omega)
    rw [b1, b2, b3, b4, show qN1 Aq sq + 1 + jq = qN1 Aq sq + (jq + 1) by omega]
    exact h9
end QA

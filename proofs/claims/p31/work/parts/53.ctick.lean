/-! the pure part: a tick of the class -/
def qFr (Aq : TA) (sq : Nat) : Nat := (fP Aq (sq + 1)).length
def qN1 (Aq : TA) (sq : Nat) : Nat := (fP Aq (sq + 1)).length + (tL Aq (4 + sq)).length
def qN2 (Aq : TA) (sq : Nat) : Nat := (fP Aq (sq + 1)).length + (tL Aq (4 + sq)).length + (tC Aq sq).length
theorem qN_e (Aq : TA) (sq : Nat) : qFr Aq sq = (fP Aq (sq + 1)).length ∧ qN1 Aq sq = qFr Aq sq + (tL Aq (4 + sq)).length ∧ qN2 Aq sq = qN1 Aq sq + (tC Aq sq).length := ⟨rfl, rfl, rfl⟩
section QA
variable {so : Nat → Nat} {g : pwG} {bq : Nat} {xq : Int64} {sc : Nat → Int32} {Rq Rz : Nat → Nat → Int32} {w : pwW} {Aq : TA} {sq : Nat}
theorem c_split (hs : sq < tN Aq 0) : repAt 0 (fAll Aq) Rq ↔ repAt 0 (fP Aq (sq + 1)) Rq ∧ repAt (qFr Aq sq) ((tL Aq (4 + sq)).map (eCr sq)) Rq ∧ repAt (qN1 Aq sq) ((tC Aq sq).map (eCe sq)) Rq ∧ repAt (qN2 Aq sq) (fDn Aq sq) Rq := by
  rw [fDn_eq (sq + 1) hs]
  show repAt 0 (fP Aq (sq + 1) ++ (((tL Aq (4 + sq)).map (eCr sq) ++ (tC Aq sq).map (eCe sq)) ++ fDn Aq sq)) Rq ↔ _
  rw [repAt_app, repAt_app, repAt_app]
  unfold qN2 qN1 qFr
  simp only [List.length_append, List.length_map, Nat.zero_add, ← Nat.add_assoc, and_assoc]
theorem rep_head {pq : Nat} {Eq : List Ent} (h : repAt pq Eq Rq) (hn : Eq ≠ []) : ∃ eq ∈ Eq, Rq 11 pq = eq.1 ∧ Rq 12 pq = eq.2.1 ∧ Rq 13 pq = eq.2.2.1 ∧ Rq 14 pq = eq.2.2.2 := by
  cases Eq with
  | nil => exact absurd rfl hn
  | cons e es => exact ⟨e, List.mem_cons_self, h 0 e rfl⟩
theorem rep_get {pq iq : Nat} {Eq : List Ent} (h : repAt pq Eq Rq) (hi : iq < Eq.length) : ∃ eq ∈ Eq, Rq 11 (pq + iq) = eq.1 ∧ Rq 12 (pq + iq) = eq.2.1 ∧ Rq 13 (pq + iq) = eq.2.2.1 ∧ Rq 14 (pq + iq) = eq.2.2.2 :=
  ⟨Eq[iq], List.getElem_mem hi, h iq _ (List.getElem?_eq_getElem hi)⟩
theorem c_len (hI : invT Aq) (hs : sq < tN Aq 0) : qN2 Aq sq + (fDn Aq sq).length = tN Aq 1 := len_street hI hs
theorem c_end1 (hI : invT Aq) (hT : repT Aq xq sc Rq) (hs : sq < tN Aq 0) : pwX so 72 0 [some (.ref bq), some (.int (zN (qFr Aq sq))), some (.int (zN 2)), some (.int (zN sq)), none] [] g (mkT bq xq sc Rq w) = some (.inl (some (.int (zN (qN1 Aq sq)))), g, (mkT bq xq sc Rq w)) := by
  have hl := c_len hI hs
  obtain ⟨d0, d1, d2⟩ := qN_e Aq sq
  have h4 := hI.1
  obtain ⟨r1, r2, r3, r4⟩ := (c_split hs).mp hT.2
  refine m_endOf (nq := tN Aq 1) hT.1.1.2.2.1 h4.2.1 (by omega) (by omega) (fun jq a c => ?_) ?_
  · obtain ⟨eq, he, e1, e2, e3, e4⟩ := rep_get (iq := jq - qFr Aq sq) r2 (by rw [List.length_map]; omega)
    rw [show qFr Aq sq + (jq - qFr Aq sq) = jq by omega] at e2 e3
    obtain ⟨kq, -, rfl⟩ := List.mem_map.mp he
    exact ⟨e2, e3⟩
  · by_cases hx : qN1 Aq sq = tN Aq 1
    · exact Or.inl hx
    · right
      have r5 : repAt (qN1 Aq sq) ((tC Aq sq).map (eCe sq) ++ fDn Aq sq) Rq := repAt_app.mpr ⟨r3, by rw [List.length_map]; exact r4⟩
      obtain ⟨eq, he, e1, e2, e3, e4⟩ := rep_head r5 (fun hh => by
        have h9 := congrArg List.length hh
        rw [List.length_append, List.length_map] at h9
        have : ([] : List Ent).length = 0 := rfl
        omega)
      rw [e2, e3]
      rintro ⟨f1, f2⟩
      rcases List.mem_append.mp he with he | he
      · obtain ⟨kq, -, rfl⟩ := List.mem_map.mp he
        exact absurd (show zN 1 = zN 2 from f1) (by decide)
      · rcases fDn_not sq (Nat.le_refl _) eq he with h6 | ⟨s2, h6, h7⟩
        · rw [h6] at f1; exact absurd f1 (by decide)
        · rw [h7, zN_eq (by omega) (by omega)] at f2; omega
theorem c_end2 (hI : invT Aq) (hT : repT Aq xq sc Rq) (hs : sq < tN Aq 0) : pwX so 72 0 [some (.ref bq), some (.int (zN (qN1 Aq sq))), some (.int (zN 1)), some (.int (zN sq)), none] [] g (mkT bq xq sc Rq w) = some (.inl (some (.int (zN (qN2 Aq sq)))), g, (mkT bq xq sc Rq w)) := by
  have hl := c_len hI hs
  obtain ⟨d0, d1, d2⟩ := qN_e Aq sq
  have h4 := hI.1
  obtain ⟨r1, r2, r3, r4⟩ := (c_split hs).mp hT.2
  refine m_endOf (nq := tN Aq 1) hT.1.1.2.2.1 h4.2.1 (by omega) (by omega) (fun jq a c => ?_) ?_
  · obtain ⟨eq, he, e1, e2, e3, e4⟩ := rep_get (iq := jq - qN1 Aq sq) r3 (by rw [List.length_map]; omega)
    rw [show qN1 Aq sq + (jq - qN1 Aq sq) = jq by omega] at e2 e3
    obtain ⟨kq, -, rfl⟩ := List.mem_map.mp he
    exact ⟨e2, e3⟩
  · by_cases hx : qN2 Aq sq = tN Aq 1
    · exact Or.inl hx
    · right
      obtain ⟨eq, he, e1, e2, e3, e4⟩ := rep_head r4 (fun hh => by
        have h9 := congrArg List.length hh
        have : ([] : List Ent).length = 0 := rfl
        omega)
      rw [e2, e3]
      rintro ⟨f1, f2⟩
      rcases fDn_not sq (Nat.le_refl _) eq he with h6 | ⟨s2, h6, h7⟩
      · rw [h6] at f1; exact absurd f1 (by decide)
      · rw [h7, zN_eq (by omega) (by omega)] at f2; omega
/-- whether the cell 0 of the next street is taken, by the file -/
theorem c_free {jq : Nat} (h4 : tN Aq 0 ≤ 4) (hs : jq < tN Aq 0) (hd : cDown (tN Aq (4 + jq)) (tC Aq jq)) (h20 : tN Aq (4 + jq) ≤ 20) (hr : repAt 0 (fP Aq jq) Rq) : (0 < (fP Aq jq).length ∧ qInC Rq ((fP Aq jq).length - 1) (zN jq) (zN 0)) ↔ ¬ ∀ eq ∈ tC Aq jq, 0 < eq.1 := by
  rw [fP_s hs] at hr ⊢
  unfold fSt at hr ⊢
  rw [← List.append_assoc] at hr ⊢
  rcases List.eq_nil_or_concat (tC Aq jq) with hc | ⟨l9, e9, hc⟩
  · rw [hc]
    rw [List.map_nil, List.append_nil]
    rw [hc, List.map_nil, List.append_nil] at hr
    constructor
    · rintro ⟨a1, a2, a3, a4⟩
      exfalso
      obtain ⟨eq, he, e1, e2, e3, e4⟩ := rep_get (iq := (fP Aq (jq + 1) ++ List.map (eCr jq) (tL Aq (4 + jq))).length - 1) hr (by omega)
      rw [Nat.zero_add] at e2 e3
      rw [e2] at a2; rw [e3] at a3
      rcases List.mem_append.mp he with he | he
      · unfold fP at he
        rcases List.mem_append.mp he with he | he
        · obtain ⟨kq, -, rfl⟩ := List.mem_map.mp he
          exact absurd (show zN 3 = zN 1 from a2) (by decide)
        · obtain ⟨s2, b1, b2, b3⟩ := fUp_not (sq := jq) _ _ (Nat.lt_succ_self _) eq he
          rw [b3, zN_eq (by omega) (by omega)] at a3; omega
      · obtain ⟨kq, -, rfl⟩ := List.mem_map.mp he
        exact absurd (show zN 2 = zN 1 from a2) (by decide)
    · intro hh; exact absurd (fun eq he => by cases he) hh
  · rw [hc] at hr hd ⊢
    rw [List.concat_eq_append] at hr hd ⊢
    rw [List.map_append, ← List.append_assoc] at hr ⊢
    have hr1 := (repAt_app.mp hr).2 0 (eCe jq e9) rfl
    have hlt := cDown_lt hd e9 (List.mem_append_right _ List.mem_cons_self)
    have hlast := cDown_last hd
    rw [Nat.zero_add, Nat.add_zero] at hr1
    obtain ⟨e1, e2, e3, e4⟩ := hr1
    have hl : (fP Aq (jq + 1) ++ List.map (eCr jq) (tL Aq (4 + jq)) ++ List.map (eCe jq) l9 ++ List.map (eCe jq) [e9]).length - 1 = (fP Aq (jq + 1) ++ List.map (eCr jq) (tL Aq (4 + jq)) ++ List.map (eCe jq) l9).length := by
      simp only [List.map_cons, List.map_nil, List.length_append, List.length_singleton, Nat.add_sub_cancel]
    rw [hl]
    have e4 : Rq 14 (fP Aq (jq + 1) ++ List.map (eCr jq) (tL Aq (4 + jq)) ++ List.map (eCe jq) l9).length = zN e9.1 := e4
    constructor
    · rintro ⟨a1, a2, a3, a4⟩ hh
      have := hh e9 (List.mem_append_right _ List.mem_cons_self)
      rw [e4, zN_eq (by omega) (by omega)] at a4
      omega
    · intro hh
      refine ⟨by simp only [List.map_cons, List.map_nil, List.length_append, List.length_singleton]; omega, e2, e3, ?_⟩
      rw [e4]
      by_cases h0 : 0 < e9.1
      · exact absurd (fun eq he => by
          rcases List.mem_append.mp he with he | he
          · have := hlast eq he; omega
          · cases List.mem_singleton.mp he; exact h0) hh
      · rw [show e9.1 = 0 by omega]
theorem c_may (hI : invT Aq) (hT : repT Aq xq sc Rq) (hs : sq < tN Aq 0) : pwX so 73 0 [some (.ref bq), some (.int (zN sq)), some (.int (zN (qFr Aq sq))), some (.int (zN (qN1 Aq sq)))] [] g (mkT bq xq sc Rq w) = some (.inl (some (.int (if goL Aq sq then zN 1 else zN 0))), g, (mkT bq xq sc Rq w)) := by
  have hl := c_len hI hs
  obtain ⟨d0, d1, d2⟩ := qN_e Aq sq
  have h4 := hI.1
  obtain ⟨⟨⟨i1, i2⟩, ⟨i3, i4⟩, i5, i6, i7, i8⟩, i9, i10, i11⟩ := hI.2.2 sq hs
  obtain ⟨r1, r2, r3, r4⟩ := (c_split hs).mp hT.2
  obtain ⟨s1, s2, s3, s4, s5, s6, s7⟩ := hT.1.2.1 sq hs
  rw [m_mayLeave (gq := tN Aq (8 + sq)) (eq := tN Aq (12 + sq)) (by omega) (by omega) (by omega) s2 s3 (by omega) i4 i5]
  have hg : qGr Rq sq (sc 2) (tN Aq (8 + sq) + tN Aq (12 + sq)) (tN Aq (8 + sq)) ↔ tGreen Aq sq := by
    unfold qGr tGreen; rw [s4, hT.1.1.2.2.2.1]
  have hfr : ¬ (0 < qFr Aq sq ∧ qInC Rq (qFr Aq sq - 1) (zN (sq + 1)) (zN 0)) ↔ tFree Aq sq := by
    by_cases hx : sq + 1 = tN Aq 0
    · constructor
      · exact fun _ => Or.inl hx
      · rintro - ⟨a1, a2, -, -⟩
        obtain ⟨eq, he, e1, e2, e3, e4⟩ := rep_get (iq := qFr Aq sq - 1) r1 (by omega)
        rw [Nat.zero_add] at e2
        rw [hx, fP_S] at he
        obtain ⟨kq, -, rfl⟩ := List.mem_map.mp he
        rw [e2] at a2
        exact absurd (show zN 3 = zN 1 from a2) (by decide)
    · obtain ⟨⟨⟨j1, j2⟩, -⟩, -, j3, -⟩ := hI.2.2 (sq + 1) (by omega)
      rw [d0, c_free h4.1 (by omega) j3 j2 r1, Classical.not_not]
      exact ⟨Or.inr, fun h => h.resolve_left hx⟩
  have hP : (qFr Aq sq < qN1 Aq sq ∧ qGr Rq sq (sc 2) (tN Aq (8 + sq) + tN Aq (12 + sq)) (tN Aq (8 + sq)) ∧ ¬ (0 < qFr Aq sq ∧ qInC Rq (qFr Aq sq - 1) (zN (sq + 1)) (zN 0))) ↔ goL Aq sq := by
    rw [hg, hfr]
    refine ⟨fun h => ⟨fun hh => ?_, h.2⟩, fun h => ⟨?_, h.2⟩⟩
    · have h1 := h.1; rw [d1, hh] at h1; exact absurd h1 (Nat.lt_irrefl _)
    · have := List.length_pos_iff.mpr h.1; omega
  by_cases hh : goL Aq sq
  · rw [if_pos hh, if_pos (hP.mpr hh)]
  · rw [if_neg hh, if_neg (fun h => hh (hP.mp h))]
end QA

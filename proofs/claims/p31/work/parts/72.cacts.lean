/-! the pure part: the class's actions: walkers, streets, lights, letters, settings -/
theorem pig_le : ∀ (nq : Nat) (ls : List Nat), ls.Nodup → (∀ xq ∈ ls, xq < nq) → ls.length ≤ nq := by
  intro nq
  induction nq with
  | zero =>
    intro ls _ h
    cases ls with
    | nil => exact Nat.le_refl _
    | cons aq ls => exact absurd (h aq List.mem_cons_self) (Nat.not_lt_zero _)
  | succ nq ih =>
    intro ls hn h
    have h1 := ih (ls.erase nq) (hn.erase nq) (fun xq hx => by
      have h2 := h xq (List.mem_of_mem_erase hx)
      have h3 : xq ≠ nq := fun hh => by subst hh; exact (hn.not_mem_erase) hx
      omega)
    by_cases hm : nq ∈ ls
    · rw [List.length_erase_of_mem hm] at h1; omega
    · rw [List.erase_of_not_mem hm] at h1; omega
theorem pig_mem {nq : Nat} {ls : List Nat} (hn : ls.Nodup) (h : ∀ xq ∈ ls, xq < nq) (hl : ls.length = nq) {kq : Nat} (hk : kq < nq) : kq ∈ ls := by
  by_cases hm : kq ∈ ls
  · exact hm
  · have h1 := pig_le nq (kq :: ls) (List.nodup_cons.mpr ⟨hm, hn⟩) (fun xq hx => by
      rcases List.mem_cons.mp hx with rfl | hx
      · exact hk
      · exact h xq hx)
    rw [List.length_cons] at h1; omega
def plc (Aq : TA) (kq : Nat) : Nat := (wAll Aq).idxOf kq
def aWr (Aq : TA) : Nat := pOut (fun iq => zN ((wAll Aq).getD iq 0)) (tN Aq 1) (tN Aq 1)
theorem pIn_eq {fq hq : Nat → Int32} {iq : Nat} (hi : fq iq = hq iq) : ∀ nq, (∀ jq, jq < nq → fq jq = hq jq) → pIn fq iq nq = pIn hq iq nq := by
  intro nq
  induction nq with
  | zero => intro _; rfl
  | succ nq ih =>
    intro h
    unfold pIn
    rw [ih (fun jq hj => h jq (by omega)), h nq (Nat.lt_succ_self _), hi]
theorem pOut_eq {fq hq : Nat → Int32} {mq : Nat} (h : ∀ jq, jq < mq → fq jq = hq jq) : ∀ nq, nq ≤ mq → pOut fq mq nq = pOut hq mq nq := by
  intro nq
  induction nq with
  | zero => intro _; rfl
  | succ nq ih =>
    intro hn
    unfold pOut
    rw [ih (by omega), pIn_eq (h nq (by omega)) mq h]
section QA
variable {so : Nat → Nat} {g : pwG} {bq : Nat} {xq : Int64} {sc : Nat → Int32} {Rq Rz : Nat → Nat → Int32} {w : pwW} {Aq Bq : TA} {sq kq oq : Nat} {pq : Int32}
theorem plc_mem (hI : invT Aq) (hk : kq < tN Aq 1) : kq ∈ wAll Aq := pig_mem hI.2.1.2.1 hI.2.1.2.2 hI.2.1.1 hk
theorem plc_lt (hI : invT Aq) (hk : kq < tN Aq 1) : plc Aq kq < tN Aq 1 := by
  have h := List.idxOf_lt_length_of_mem (plc_mem hI hk)
  rw [hI.2.1.1] at h; exact h
theorem plc_get (hI : invT Aq) (hk : kq < tN Aq 1) : (wAll Aq)[plc Aq kq]? = some kq := by
  have h := List.idxOf_lt_length_of_mem (plc_mem hI hk)
  unfold plc
  rw [List.getElem?_eq_getElem h, List.getElem_idxOf h]
theorem w_get (hI : invT Aq) {iq : Nat} (hi : iq < tN Aq 1) : ∃ k9, (wAll Aq)[iq]? = some k9 ∧ k9 < tN Aq 1 ∧ (wAll Aq).getD iq 0 = k9 := by
  have hl : iq < (wAll Aq).length := by rw [hI.2.1.1]; exact hi
  refine ⟨(wAll Aq)[iq], List.getElem?_eq_getElem hl, hI.2.1.2.2 _ (List.getElem_mem hl), ?_⟩
  rw [List.getD_eq_getElem?_getD, List.getElem?_eq_getElem hl]; rfl
theorem w_inj (hI : invT Aq) {iq jq k9 : Nat} (h1 : (wAll Aq)[iq]? = some k9) (h2 : (wAll Aq)[jq]? = some k9) : iq = jq := by
  exact (List.getElem?_inj (List.getElem?_eq_some_iff.mp h1).1 hI.2.1.2.1).mp (h1.trans h2.symm)
theorem rep_W (hT : repT Aq xq sc Rq) {iq k9 : Nat} (h : (wAll Aq)[iq]? = some k9) : Rq 11 iq = zN k9 := (rep_two.mp hT.2).1 iq k9 h
theorem c_before (hI : invT Aq) (hT : repT Aq xq sc Rq) (hk : kq < tN Aq 1) : Rq 11 (plc Aq kq) = zN kq ∧ ∀ jq, jq < plc Aq kq → ¬ Rq 11 jq = zN kq := by
  have h4 := hI.1
  refine ⟨rep_W hT (plc_get hI hk), fun jq hj hh => ?_⟩
  obtain ⟨k9, e1, e2, -⟩ := w_get hI (show jq < tN Aq 1 from Nat.lt_trans hj (plc_lt hI hk))
  rw [rep_W hT e1, zN_eq (by omega) (by omega)] at hh
  subst hh
  have := w_inj hI e1 (plc_get hI hk)
  omega
theorem c_placeOf (hI : invT Aq) (hT : repT Aq xq sc Rq) (hk : kq < tN Aq 1) : pwX so 46 0 [some (.ref bq), some (.int (zN kq)), none] [] g (mkT bq xq sc Rq w) = some (.inl (some (.int (zN (plc Aq kq)))), g, (mkT bq xq sc Rq w)) := by
  obtain ⟨a1, a2⟩ := c_before hI hT hk
  exact m_placeOf hT.1.1.2.2.1 hI.1.2.1 (plc_lt hI hk) a1 a2
theorem come_at (hI : invT Aq) (hT : repT Aq xq sc Rq) {iq : Nat} (hi : iq < tN Aq 1) : Rq 12 iq = zN 3 ↔ iq < (tL Aq 0).length := by
  have hcl := come_len hI
  have h := hT.2
  unfold fAll at h
  rw [repAt_app, List.length_map] at h
  constructor
  · intro hh
    by_cases hx : iq < (tL Aq 0).length
    · exact hx
    · obtain ⟨eq, he, e1, e2, -, -⟩ := rep_get (iq := iq - (tL Aq 0).length) h.2 (by omega)
      rw [Nat.zero_add, show (tL Aq 0).length + (iq - (tL Aq 0).length) = iq by omega] at e2
      rw [e2] at hh
      exact absurd hh (fDn_st _ eq he)
  · intro hx
    obtain ⟨eq, he, e1, e2, -, -⟩ := rep_get (iq := iq) h.1 (by rw [List.length_map]; exact hx)
    rw [Nat.zero_add] at e2
    obtain ⟨k9, -, rfl⟩ := List.mem_map.mp he
    exact e2
theorem plc_come (hI : invT Aq) (hk : kq < tN Aq 1) : plc Aq kq < (tL Aq 0).length ↔ kq ∈ tL Aq 0 := by
  have hg := plc_get hI hk
  constructor
  · intro h
    unfold wAll at hg
    rw [List.getElem?_append_left h] at hg
    exact List.mem_of_getElem? hg
  · intro h
    obtain ⟨iq, hi, h2⟩ := List.getElem_of_mem h
    have h3 : (wAll Aq)[iq]? = some kq := by
      unfold wAll
      rw [List.getElem?_append_left hi, List.getElem?_eq_getElem hi, h2]
    rw [← w_inj hI h3 hg]; exact hi
theorem c_hasCome (hI : invT Aq) (hT : repT Aq xq sc Rq) (hk : kq < tN Aq 1) : pwX so 48 0 [some (.ref bq), some (.int (zN kq))] [] g (mkT bq xq sc Rq w) = some (.inl (some (.int (if kq ∈ tL Aq 0 then zN 1 else zN 0))), g, (mkT bq xq sc Rq w)) := by
  obtain ⟨a1, a2⟩ := c_before hI hT hk
  rw [m_hasCome hT.1.1.2.2.1 hI.1.2.1 (plc_lt hI hk) a1 a2]
  have h1 := (come_at hI hT (plc_lt hI hk)).trans (plc_come hI hk)
  by_cases h : kq ∈ tL Aq 0
  · rw [if_pos h, if_pos (h1.mpr h)]
  · rw [if_neg h, if_neg (fun hh => h (h1.mp hh))]
theorem c_wrong (hI : invT Aq) (hT : repT Aq xq sc Rq) : pwX so 55 0 [some (.ref bq)] [] g (mkT bq xq sc Rq w) = some (.inl (some (.int (zN (aWr Aq)))), g, (mkT bq xq sc Rq w)) := by
  rw [m_wrongPairs hT.1.1.2.2.1 hI.1.2.1]
  have h : pOut (Rq 11) (tN Aq 1) (tN Aq 1) = aWr Aq := pOut_eq (fun jq hj => by
    obtain ⟨k9, e1, e2, e3⟩ := w_get hI hj
    rw [rep_W hT e1, e3]) _ (Nat.le_refl _)
  rw [h]
theorem c_allHaveCome (hI : invT Aq) (hT : repT Aq xq sc Rq) : pwX so 50 0 [some (.ref bq)] [] g (mkT bq xq sc Rq w) = some (.inl (some (.int (if (tL Aq 0).length = tN Aq 1 then zN 1 else zN 0))), g, (mkT bq xq sc Rq w)) := by
  have hcl := come_len hI
  rw [m_allHaveCome hT.1.1.2.2.1 hI.1.2.1]
  have h : (tN Aq 1 = 0 ∨ Rq 12 (tN Aq 1 - 1) = zN 3) ↔ (tL Aq 0).length = tN Aq 1 := by
    by_cases h0 : tN Aq 1 = 0
    · exact ⟨fun _ => by omega, fun _ => Or.inl h0⟩
    · rw [come_at hI hT (by omega)]
      constructor
      · rintro (h | h) <;> omega
      · intro h; right; omega
  by_cases hh : (tL Aq 0).length = tN Aq 1
  · rw [if_pos hh, if_pos (h.mpr hh)]
  · rw [if_neg hh, if_neg (fun h9 => hh (h.mp h9))]
theorem c_addWalker (hI : invT Aq) (hT : repT Aq xq sc Rq) (h10 : tN Aq 1 < 10) : ∃ sc1 R1, repT (tWalker Aq pq) xq sc1 R1 ∧ pwX so 58 0 [some (.ref bq), some (.int pq), none] [] g (mkT bq xq sc Rq w) = some (.inl (some (.int (zN (tN Aq 1)))), g, (mkT bq xq sc1 R1 w)) := by
  refine ⟨_, _, ?_, m_addWalker hT.1.1.2.2.1 h10⟩
  obtain ⟨⟨⟨n1, n2, n3, n4, n5, n6⟩, n7, n8⟩, r⟩ := hT
  have h4 := hI.1
  have hN : ∀ jq, jq ≠ 1 → tN (tWalker Aq pq) jq = tN Aq jq := fun jq hj => by show va_up (tN Aq) 1 _ jq = _; exact va_up_ne _ _ hj
  have hN1 : tN (tWalker Aq pq) 1 = tN Aq 1 + 1 := rfl
  have hL : ∀ jq, 4 ≤ jq → tL (tWalker Aq pq) jq = tL Aq jq := fun jq hj => by show va_up (tL Aq) 1 _ jq = _; exact va_up_ne _ _ (by omega)
  refine ⟨⟨⟨n1, ?_, ?_, ?_, ?_, ?_⟩, fun s2 hs2 => ?_, fun k9 hk => ?_⟩, ?_⟩
  · rw [qU_n (by decide), hN 0 (by decide)]; exact n2
  · rw [qU_s, hN1]
  · rw [qU_n (by decide)]; exact n4
  · rw [qU_n (by decide), hN 2 (by decide)]; exact n5
  · rw [qU_n (by decide), hN 3 (by decide)]; exact n6
  · rw [hN 0 (by decide)] at hs2
    rw [hN _ (by omega), hN _ (by omega), hN _ (by omega), hN _ (by omega), hN _ (by omega), hL _ (by omega)]
    simp (disch := omega) only [qV_n]
    exact n7 s2 hs2
  · rw [hN1] at hk
    simp (disch := omega) only [qV_n, qV_s]
    show upd (Rq 9) (tN Aq 1) pq k9 = upd (tE Aq) (tN Aq 1) pq k9 ∧ upd (Rq 10) (tN Aq 1) (-1) k9 = upd (tK Aq) (tN Aq 1) zM k9
    by_cases hx : k9 = tN Aq 1
    · subst hx; rw [qU_s, qU_s, qU_s, qU_s]; exact ⟨rfl, rfl⟩
    · rw [qU_n hx, qU_n hx, qU_n hx, qU_n hx]; exact n8 k9 (by omega)
  · rw [wk_fAll, repAt_app, fAll_len, hI.2.1.1, Nat.zero_add]
    have hun : ∀ iq, iq ≠ tN Aq 1 → ∀ r9 r0 ra rb rc rd, va_up (va_up (va_up (va_up (va_up (va_up Rq 9 r9) 10 r0) 11 (upd (Rq 11) (tN Aq 1) ra)) 12 (upd (Rq 12) (tN Aq 1) rb)) 13 (upd (Rq 13) (tN Aq 1) rc)) 14 (upd (Rq 14) (tN Aq 1) rd) 11 iq = Rq 11 iq ∧ va_up (va_up (va_up (va_up (va_up (va_up Rq 9 r9) 10 r0) 11 (upd (Rq 11) (tN Aq 1) ra)) 12 (upd (Rq 12) (tN Aq 1) rb)) 13 (upd (Rq 13) (tN Aq 1) rc)) 14 (upd (Rq 14) (tN Aq 1) rd) 12 iq = Rq 12 iq ∧ va_up (va_up (va_up (va_up (va_up (va_up Rq 9 r9) 10 r0) 11 (upd (Rq 11) (tN Aq 1) ra)) 12 (upd (Rq 12) (tN Aq 1) rb)) 13 (upd (Rq 13) (tN Aq 1) rc)) 14 (upd (Rq 14) (tN Aq 1) rd) 13 iq = Rq 13 iq ∧ va_up (va_up (va_up (va_up (va_up (va_up Rq 9 r9) 10 r0) 11 (upd (Rq 11) (tN Aq 1) ra)) 12 (upd (Rq 12) (tN Aq 1) rb)) 13 (upd (Rq 13) (tN Aq 1) rc)) 14 (upd (Rq 14) (tN Aq 1) rd) 14 iq = Rq 14 iq := by
      intro iq hx r9 r0 ra rb rc rd
      simp (disch := omega) only [qV_n, qV_s, qU_n, and_self]
    refine ⟨repAt_eq r fun iq a c => hun iq (by rw [fAll_len, hI.2.1.1] at c; omega) _ _ _ _ _ _, repAt_one ?_⟩
    simp (disch := omega) only [qV_n, qV_s, qU_s]
    exact ⟨rfl, rfl, rfl, rfl⟩
theorem c_addStreet {c1 c2 c3 c5 : Nat} (hT : repT Aq xq sc Rq) (h4 : tN Aq 0 < 4) : ∃ sc1 R1, repT (tAdd Aq c1 c2 c3 c5) xq sc1 R1 ∧ pwX so 21 0 [some (.ref (bq + 1)), some (.int (zN c1)), some (.int (zN c2)), some (.int (zN c3)), some (.int (zN c5))] [] g (mkT bq xq sc Rq w) = some (.inl (some (.int (zN (tN Aq 0)))), g, (mkT bq xq sc1 R1 w)) := by
  refine ⟨_, _, ?_, m_addStreet hT.1.1.2.1 h4⟩
  obtain ⟨⟨⟨n1, n2, n3, n4, n5, n6⟩, n7, n8⟩, r⟩ := hT
  obtain ⟨u1, u2, u3, u4, u5⟩ := @ad_Nl Aq c1 c2 c3 c5 h4
  have hN : ∀ jq, 1 ≤ jq → jq < 4 → tN (tAdd Aq c1 c2 c3 c5) jq = tN Aq jq := fun jq a b => ad_N (by omega) (by omega) (by omega) (by omega) (by omega) (by omega)
  refine ⟨⟨⟨n1, ?_, ?_, ?_, ?_, ?_⟩, fun s2 hs2 => ?_, fun k9 hk => ?_⟩, ?_⟩
  · rw [qU_s, ad_N0]
  · rw [qU_n (by decide), hN 1 (by decide) (by decide)]; exact n3
  · rw [qU_n (by decide)]; exact n4
  · rw [qU_n (by decide), hN 2 (by decide) (by decide)]; exact n5
  · rw [qU_n (by decide), hN 3 (by decide) (by decide)]; exact n6
  · rw [ad_N0] at hs2
    simp (disch := omega) only [qV_n, qV_s]
    by_cases hx : s2 = tN Aq 0
    · subst hx
      rw [u1, u2, u3, u4, u5, ad_L8]
      simp (disch := omega) only [qU_s]
      exact ⟨trivial, trivial, trivial, trivial, trivial, rfl, fun iq kq hh => by cases hh⟩
    · simp (disch := omega) only [qU_n]
      rw [ad_N (by omega) (by omega) (by omega) (by omega) (by omega) (by omega), ad_N (by omega) (by omega) (by omega) (by omega) (by omega) (by omega), ad_N (by omega) (by omega) (by omega) (by omega) (by omega) (by omega), ad_N (by omega) (by omega) (by omega) (by omega) (by omega) (by omega), ad_N (by omega) (by omega) (by omega) (by omega) (by omega) (by omega), ad_L (by omega) (by omega)]
      exact n7 s2 (by omega)
  · rw [hN 1 (by decide) (by decide)] at hk
    simp (disch := omega) only [qV_n]
    exact n8 k9 hk
  · rw [ad_fAll h4]
    exact repAt_eq r fun iq a c => by simp (disch := omega) only [qV_n, and_self]
end QA

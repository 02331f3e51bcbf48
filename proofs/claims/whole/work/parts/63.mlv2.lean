/-! the pure part: a tick of the model: one leaves, as a whole -/
section QD
variable {fq hq : Nat → Int32} {pq iq kq : Nat} {ls : List Nat} {Aq Bq : TA} {sq : Nat} {es : List (Nat × Nat)}
theorem lsM_eq (h : lsM pq ls fq) (he : ∀ jq, jq < ls.length → hq (pq + jq) = fq (pq + jq)) : lsM pq ls hq := fun jq k9 hk => by
  rw [he jq (List.getElem?_eq_some_iff.mp hk).1]; exact h jq k9 hk
theorem lsM_snoc (h : lsM pq ls fq) (he : ∀ jq, jq < ls.length → hq (pq + jq) = fq (pq + jq)) (hk : hq (pq + ls.length) = zN kq) : lsM pq (ls ++ [kq]) hq := fun jq k9 h9 => by
  by_cases hj : jq < ls.length
  · rw [List.getElem?_append_left hj] at h9
    rw [he jq hj]; exact h jq k9 h9
  · have h1 := (List.getElem?_eq_some_iff.mp h9).1
    rw [List.length_append, List.length_singleton] at h1
    have h2 : jq = ls.length := by omega
    subst h2
    rw [List.getElem?_append_right (Nat.le_refl _), Nat.sub_self] at h9
    cases h9
    exact hk
theorem lsM_erase (h : lsM pq ls fq) (h1 : ∀ jq, jq < iq → hq (pq + jq) = fq (pq + jq)) (h2 : ∀ jq, iq ≤ jq → jq + 1 < ls.length → hq (pq + jq) = fq (pq + jq + 1)) : lsM pq (ls.eraseIdx iq) hq := fun jq k9 h9 => by
  rw [List.getElem?_eraseIdx] at h9
  by_cases hj : jq < iq
  · rw [if_pos hj] at h9
    rw [h1 jq hj]; exact h jq k9 h9
  · rw [if_neg hj] at h9
    rw [h2 jq (by omega) (List.getElem?_eq_some_iff.mp h9).1]
    exact h (jq + 1) k9 h9
theorem cO_none {cq : Nat} : cO es cq = none ↔ ∀ eq ∈ es, ¬ eq.1 = cq := by
  induction es with
  | nil => exact ⟨fun _ eq h => (by cases h), fun _ => rfl⟩
  | cons e es ih =>
    unfold cO
    by_cases h : e.1 = cq
    · rw [if_pos h]
      exact ⟨fun hh => (by cases hh), fun hh => absurd h (hh e List.mem_cons_self)⟩
    · rw [if_neg h, ih]
      constructor
      · intro hh eq he
        rcases List.mem_cons.mp he with rfl | he
        · exact h
        · exact hh eq he
      · exact fun hh eq he => hh eq (List.mem_cons_of_mem _ he)
theorem cO_mem {cq : Nat} (h : cO es cq = some kq) : (cq, kq) ∈ es := by
  induction es with
  | nil => cases h
  | cons e es ih =>
    unfold cO at h
    by_cases hc : e.1 = cq
    · rw [if_pos hc] at h
      cases h
      rw [← hc]; exact List.mem_cons_self
    · rw [if_neg hc] at h
      exact List.mem_cons_of_mem _ (ih h)
theorem cO_app {e2 : List (Nat × Nat)} {cq : Nat} : cO (es ++ e2) cq = match cO es cq with
    | some k9 => some k9
    | none => cO e2 cq := by
  induction es with
  | nil => rfl
  | cons e es ih =>
    show (if e.1 = cq then some e.2 else cO (es ++ e2) cq) = match (if e.1 = cq then some e.2 else cO es cq) with
      | some k9 => some k9
      | none => cO e2 cq
    by_cases hc : e.1 = cq
    · rw [if_pos hc, if_pos hc]
    · rw [if_neg hc, if_neg hc]; exact ih
theorem oV_some (h : kq < 2147483648) : (oV (some kq) = zM) = False := zN_nm h
theorem oV_m {oq : Option Nat} (h : ∀ k9, oq = some k9 → k9 < 2147483648) : (oV oq = zM) ↔ oq = none := by
  cases oq with
  | none => exact ⟨fun _ => rfl, fun _ => rfl⟩
  | some k9 => exact ⟨fun hh => absurd hh (by rw [oV_some (h k9 rfl)]; exact id), fun hh => by cases hh⟩
theorem walk_lt (hI : invT Aq) (hs : sq < tN Aq 0) : (∀ kq ∈ tL Aq (4 + sq), kq < tN Aq 1) ∧ ∀ eq ∈ tC Aq sq, eq.2 < tN Aq 1 := by
  have h := hI.2.1.2.2
  rw [wDn_eq (sq + 1) hs] at h
  refine ⟨fun kq hk => h kq (List.mem_append_right _ ?_), fun eq he => h eq.2 (List.mem_append_right _ ?_)⟩
  · show kq ∈ tL Aq (4 + sq) ++ (tC Aq sq).map Prod.snd ++ wDn Aq sq
    exact List.mem_append_left _ (List.mem_append_left _ hk)
  · show eq.2 ∈ tL Aq (4 + sq) ++ (tC Aq sq).map Prod.snd ++ wDn Aq sq
    exact List.mem_append_left _ (List.mem_append_right _ (List.mem_map_of_mem he))
theorem cO_lt (hI : invT Aq) (hs : sq < tN Aq 0) {cq : Nat} : ∀ k9, cO (tC Aq sq) cq = some k9 → k9 < 2147483648 := fun k9 h => by
  have h1 := (walk_lt hI hs).2 _ (cO_mem h)
  have h2 := hI.1.2.1
  have h1 : k9 < tN Aq 1 := h1
  omega
theorem free0 (hI : invT Aq) (hs : sq < tN Aq 0) : (oV (cO (tC Aq sq) 0) = zM) ↔ ∀ eq ∈ tC Aq sq, 0 < eq.1 := by
  rw [oV_m (cO_lt hI hs), cO_none]
  exact ⟨fun h eq he => Nat.pos_of_ne_zero (h eq he), fun h eq he => Nat.pos_iff_ne_zero.mp (h eq he)⟩
theorem repMs_eq (h : repMs Aq fq sq) (h0 : tN Bq = tN Aq) (h1 : tL Bq (4 + sq) = tL Aq (4 + sq)) (h2 : tL Bq (8 + sq) = tL Aq (8 + sq)) (l1 : (tL Aq (4 + sq)).length ≤ 6) (l2 : (tL Aq (8 + sq)).length ≤ 10) (hf : ∀ jq, jq < 23 → hq (44 + 43 * sq + jq) = fq (44 + 43 * sq + jq)) (hc : ∀ cq, cq < 20 → hq (44 + 43 * sq + 23 + cq) = oV (cO (tC Bq sq) cq)) : repMs Bq hq sq := by
  obtain ⟨⟨a0, a1, a2, a3, a4⟩, ⟨b0, b1⟩, ⟨c0, c1⟩, d⟩ := h
  unfold repMs
  rw [h0, h1, h2]
  refine ⟨⟨?_, ?_, ?_, ?_, ?_⟩, ⟨?_, lsM_eq b1 fun jq hj => ?_⟩, ⟨?_, lsM_eq c1 fun jq hj => ?_⟩, hc⟩
  · have := hf 0 (by omega); rw [Nat.add_zero] at this; rw [this]; exact a0
  · rw [hf 1 (by omega)]; exact a1
  · rw [hf 2 (by omega)]; exact a2
  · rw [hf 3 (by omega)]; exact a3
  · rw [hf 4 (by omega)]; exact a4
  · rw [hf 5 (by omega)]; exact b0
  · rw [Nat.add_assoc (44 + 43 * sq), hf (6 + jq) (by omega)]
  · rw [hf 12 (by omega)]; exact c0
  · rw [Nat.add_assoc (44 + 43 * sq), hf (13 + jq) (by omega)]
end QD
/-- the row once one has left -/
def mLv (Aq : TA) (sq : Nat) (fq : Nat → Int32) : Nat → Int32 :=
  let f5 := upd (upd (qDel (upd (chF (tN Aq 2) (tX Aq) fq) (44 + 43 * sq + 5) (zN ((tL Aq (4 + sq)).length - 1))) (44 + 43 * sq + 6 + tI Aq sq) (44 + 43 * sq + 6 + ((tL Aq (4 + sq)).length - 1))) (44 + 43 * sq + 13 + (tL Aq (8 + sq)).length) (zN (tWho Aq sq))) (44 + 43 * sq + 12) (zN ((tL Aq (8 + sq)).length + 1))
  if sq + 1 = tN Aq 0 then upd (upd (upd f5 (33 + (tL Aq 0).length) (zN (tWho Aq sq))) 32 (zN ((tL Aq 0).length + 1))) (11 + tWho Aq sq) (tT Aq)
  else upd f5 (44 + 43 * (sq + 1) + 23) (zN (tWho Aq sq))
section QA
variable {so : Nat → Nat} {g : pwG} {w : pwW} {aq nq sq Sq : Nat} {fq : Nat → Int32} {pq rq tq uq : Int32} {Aq : TA} {xq : Int64}
theorem n_leave (hI : invT Aq) (hM : repM Aq fq) (hs : sq < tN Aq 0) : pwX so 157 0 [some (.ref aq), some (.int (zN sq)), none, none, none, none, none, none] [] g (mkA aq 221 fq w) = some (.inl none, g, (mkA aq 221 (if goL Aq sq then mLv Aq sq fq else fq) w)) := by
  have h4 := hI.1
  obtain ⟨⟨m0, m43, m216, m217, m218, m219, m220⟩, mk, ⟨m21, mst⟩, ⟨m32, mco⟩, ms⟩ := hM
  obtain ⟨⟨⟨i1, i2⟩, ⟨i3, i4⟩, i5, i6, i7, i8⟩, i9, i10, i11⟩ := hI.2.2 sq hs
  obtain ⟨⟨a0, a1, a2, a3, a4⟩, ⟨b0, b1⟩, ⟨c0, c1⟩, d⟩ := ms sq hs
  have hG := @n_isGreen so g w aq sq fq (tT Aq) 0 (tN Aq (8 + sq)) (tN Aq (16 + sq)) (tN Aq (12 + sq)) (by omega) m218 a1 a2 a3 (by omega) i4 i5
  have hrd := (rd_le hI hs).1
  by_cases hn : tL Aq (4 + sq) = []
  · rw [if_neg (fun h => h.1 hn)]
    rw [hn] at b0
    have b0 : fq (44 + 43 * sq + 5) = zN 0 := b0
    by_cases hl : sq + 1 = tN Aq 0
    · have hl2 : sq = tN Aq 0 - 1 := by omega
      simp (disch := omega) only [s_X8_leave_0, s_X8_leave_1, s_X8_leave_4, s_X8_leave_5, s_X8_leave_6, s_X8_leave_7, s_X8_leave_9, s_X8_leave_10, s_X8_leave_11, s_X8_leave_12, s_X8_leave_15, s_X8_leave_16, s_X8_leave_19, s_X8_leave_20, s_X8_leave_21, s_X8_leave_22, s_X8_leave_25, s_X8_leave_26, s_X8_leave_27, s_X8_leave_28, s_X8_leave_29, s_X8_leave_32, s_X8_leave_34, s_X8_leave_35, s_X8_leave_36, s_X8_leave_37, s_X8_leave_40, s_X8_leave_41, s_X8_leave_44, s_X8_leave_45, s_X8_leave_47, s_X8_leave_48, s_X8_leave_49, s_X8_leave_50, s_X8_leave_51, s_X8_leave_52, s_X8_leave_55, s_X8_leave_57, s_X8_leave_60, s_X8_leave_61, s_X8_leave_62, s_X8_leave_65, s_X8_leave_68, zN_neg1, nL0, nL1, nL2, nL3, nL4, nL5, nL6, nL7, nL8, nL9, nL10, nL11, nL12, nL13, nL14, nL20, nL21, nL22, nL23, nL25, nL32, nL33, nL39, nL40, nL43, nL44, nL99, nL100, nL120, nL216, nL217, nL218, nL219, nL220, nL221, nL500, nL999, nL1000, nL10000, nL100000, sh33, zN_lt, zN_le, zN_eq, zN_ge0, zN_lt0, zN_nm, zN_mn, zN_mlt, zN_ltm, zN_lem, zN_mle, zN_m1, zN_m2, zN_addm, zN_ofNat, zN_beq, zN_add, zN_sub, zN_mul, zN_rem, qT_lt, qF_lt, qT_le, qF_le, qT_eq, qF_eq, ↓reduceIte, and_true, true_and, false_and, and_false, not_true_eq_false, not_false_eq_true, decide_true, decide_false, Bool.true_or, Bool.or_true, Bool.false_or, Bool.or_false, cond_true, cond_false, ↓md_ld, qAv, n_block, m43, b0]
    · have h1 := free0 (sq := sq + 1) hI (by omega)
      have h2 := (ms (sq + 1) (by omega)).2.2.2 0 (by omega)
      rw [Nat.add_zero] at h2
      by_cases hf : ∀ eq ∈ tC Aq (sq + 1), 0 < eq.1
      · have h3 := h1.mpr hf
        simp (disch := omega) only [s_X8_leave_0, s_X8_leave_1, s_X8_leave_4, s_X8_leave_5, s_X8_leave_6, s_X8_leave_7, s_X8_leave_9, s_X8_leave_10, s_X8_leave_11, s_X8_leave_12, s_X8_leave_15, s_X8_leave_16, s_X8_leave_19, s_X8_leave_20, s_X8_leave_21, s_X8_leave_22, s_X8_leave_25, s_X8_leave_26, s_X8_leave_27, s_X8_leave_28, s_X8_leave_29, s_X8_leave_32, s_X8_leave_34, s_X8_leave_35, s_X8_leave_36, s_X8_leave_37, s_X8_leave_40, s_X8_leave_41, s_X8_leave_44, s_X8_leave_45, s_X8_leave_47, s_X8_leave_48, s_X8_leave_49, s_X8_leave_50, s_X8_leave_51, s_X8_leave_52, s_X8_leave_55, s_X8_leave_57, s_X8_leave_60, s_X8_leave_61, s_X8_leave_62, s_X8_leave_65, s_X8_leave_68, zN_neg1, nL0, nL1, nL2, nL3, nL4, nL5, nL6, nL7, nL8, nL9, nL10, nL11, nL12, nL13, nL14, nL20, nL21, nL22, nL23, nL25, nL32, nL33, nL39, nL40, nL43, nL44, nL99, nL100, nL120, nL216, nL217, nL218, nL219, nL220, nL221, nL500, nL999, nL1000, nL10000, nL100000, sh33, zN_lt, zN_le, zN_eq, zN_ge0, zN_lt0, zN_nm, zN_mn, zN_mlt, zN_ltm, zN_lem, zN_mle, zN_m1, zN_m2, zN_addm, zN_ofNat, zN_beq, zN_add, zN_sub, zN_mul, zN_rem, qT_lt, qF_lt, qT_le, qF_le, qT_eq, qF_eq, ↓reduceIte, and_true, true_and, false_and, and_false, not_true_eq_false, not_false_eq_true, decide_true, decide_false, Bool.true_or, Bool.or_true, Bool.false_or, Bool.or_false, cond_true, cond_false, ↓md_ld, qAv, n_block, m43, b0, h2, h3]
      · have h3 : ¬ oV (cO (tC Aq (sq + 1)) 0) = zM := fun h => hf (h1.mp h)
        simp (disch := omega) only [s_X8_leave_0, s_X8_leave_1, s_X8_leave_4, s_X8_leave_5, s_X8_leave_6, s_X8_leave_7, s_X8_leave_9, s_X8_leave_10, s_X8_leave_11, s_X8_leave_12, s_X8_leave_15, s_X8_leave_16, s_X8_leave_19, s_X8_leave_20, s_X8_leave_21, s_X8_leave_22, s_X8_leave_25, s_X8_leave_26, s_X8_leave_27, s_X8_leave_28, s_X8_leave_29, s_X8_leave_32, s_X8_leave_34, s_X8_leave_35, s_X8_leave_36, s_X8_leave_37, s_X8_leave_40, s_X8_leave_41, s_X8_leave_44, s_X8_leave_45, s_X8_leave_47, s_X8_leave_48, s_X8_leave_49, s_X8_leave_50, s_X8_leave_51, s_X8_leave_52, s_X8_leave_55, s_X8_leave_57, s_X8_leave_60, s_X8_leave_61, s_X8_leave_62, s_X8_leave_65, s_X8_leave_68, zN_neg1, nL0, nL1, nL2, nL3, nL4, nL5, nL6, nL7, nL8, nL9, nL10, nL11, nL12, nL13, nL14, nL20, nL21, nL22, nL23, nL25, nL32, nL33, nL39, nL40, nL43, nL44, nL99, nL100, nL120, nL216, nL217, nL218, nL219, nL220, nL221, nL500, nL999, nL1000, nL10000, nL100000, sh33, zN_lt, zN_le, zN_eq, zN_ge0, zN_lt0, zN_nm, zN_mn, zN_mlt, zN_ltm, zN_lem, zN_mle, zN_m1, zN_m2, zN_addm, zN_ofNat, zN_beq, zN_add, zN_sub, zN_mul, zN_rem, qT_lt, qF_lt, qT_le, qF_le, qT_eq, qF_eq, ↓reduceIte, and_true, true_and, false_and, and_false, not_true_eq_false, not_false_eq_true, decide_true, decide_false, Bool.true_or, Bool.or_true, Bool.false_or, Bool.or_false, cond_true, cond_false, ↓md_ld, qAv, n_block, m43, b0, h2, h3]
  · have hpos := List.length_pos_iff.mpr hn
    obtain ⟨hi, hk⟩ := tWho_get hn
    have hwl := tWho_lt hI hs hn
    have hcl := come_len hI
    have hch := @n_chosen so g w aq sq fq (tX Aq) (tL Aq (4 + sq)).length (tN Aq 2) (by omega) hpos (by omega) m216 h4.2.2.1 m219 m220 b0
    have hti : chI (tN Aq 2) (tX Aq) (fun jq => fq (44 + 43 * sq + 6 + jq)) (tL Aq (4 + sq)).length = tI Aq sq := by
      unfold tI
      refine chI_eq fun jq hj => ?_
      exact b1 jq _ (by rw [List.getElem?_eq_getElem hj, List.getD_eq_getElem?_getD, List.getElem?_eq_getElem hj]; rfl)
    rw [hti] at hch
    have hwho : fq (44 + 43 * sq + 6 + tI Aq sq) = zN (tWho Aq sq) := b1 _ _ (by rw [List.getElem?_eq_getElem hi, hk])
    have hlp := fun (h9 : Nat → Int32) (r1 t1 u1 : Int32) (e1 : h9 (44 + 43 * sq + 5) = zN ((tL Aq (4 + sq)).length - 1)) => @n_leave100 so g w aq sq h9 (zN sq) r1 t1 u1 ((tL Aq (4 + sq)).length - 1) (tI Aq sq) (tWho Aq sq) (by omega) (by omega) e1 ((tL Aq (4 + sq)).length - 1 - tI Aq sq) (tI Aq sq) (by omega) (Nat.le_refl _)
    have hlp2 := fun (r1 t1 u1 : Int32) => hlp (upd (chF (tN Aq 2) (tX Aq) fq) (44 + 43 * sq + 5) (zN ((tL Aq (4 + sq)).length - 1))) r1 t1 u1 qU_s
    simp only [qD_0] at hlp2
    by_cases hg : tGreen Aq sq
    · rw [if_pos hg] at hG
      by_cases hl : sq + 1 = tN Aq 0
      · have hl2 : sq = tN Aq 0 - 1 := by omega
        rw [if_pos ⟨hn, hg, Or.inl hl⟩]
        have hcm : (tL Aq 0).length + 1 ≤ 10 := by
          have h9 := len_street hI hs
          rw [hl, fP_S, List.length_map] at h9
          omega
        simp (disch := omega) only [s_X8_leave_0, s_X8_leave_1, s_X8_leave_4, s_X8_leave_5, s_X8_leave_6, s_X8_leave_7, s_X8_leave_9, s_X8_leave_10, s_X8_leave_11, s_X8_leave_12, s_X8_leave_15, s_X8_leave_16, s_X8_leave_19, s_X8_leave_20, s_X8_leave_21, s_X8_leave_22, s_X8_leave_25, s_X8_leave_26, s_X8_leave_27, s_X8_leave_28, s_X8_leave_29, s_X8_leave_32, s_X8_leave_34, s_X8_leave_35, s_X8_leave_36, s_X8_leave_37, s_X8_leave_40, s_X8_leave_41, s_X8_leave_44, s_X8_leave_45, s_X8_leave_47, s_X8_leave_48, s_X8_leave_49, s_X8_leave_50, s_X8_leave_51, s_X8_leave_52, s_X8_leave_55, s_X8_leave_57, s_X8_leave_60, s_X8_leave_61, s_X8_leave_62, s_X8_leave_65, s_X8_leave_68, s_X8_leave_69, s_X8_leave_70, s_X8_leave_71, s_X8_leave_74, s_X8_leave_76, s_X8_leave_77, s_X8_leave_78, s_X8_leave_80, s_X8_leave_81, s_X8_leave_83, s_X8_leave_84, s_X8_leave_85, s_X8_leave_87, s_X8_leave_88, s_X8_leave_89, s_X8_leave_90, s_X8_leave_91, s_X8_leave_92, s_X8_leave_93, s_X8_leave_94, s_X8_leave_95, s_X8_leave_96, s_X8_leave_98, s_X8_leave_110, s_X8_leave_111, s_X8_leave_112, s_X8_leave_114, s_X8_leave_115, s_X8_leave_117, s_X8_leave_118, s_X8_leave_119, s_X8_leave_120, s_X8_leave_122, s_X8_leave_123, s_X8_leave_125, s_X8_leave_126, s_X8_leave_127, s_X8_leave_128, s_X8_leave_129, s_X8_leave_130, s_X8_leave_133, s_X8_leave_136, s_X8_leave_137, s_X8_leave_138, s_X8_leave_140, s_X8_leave_141, s_X8_leave_142, s_X8_leave_143, s_X8_leave_145, s_X8_leave_146, s_X8_leave_147, s_X8_leave_148, s_X8_leave_150, s_X8_leave_151, s_X8_leave_152, s_X8_leave_153, s_X8_leave_155, s_X8_leave_156, s_X8_leave_157, s_X8_leave_158, s_X8_leave_159, s_X8_leave_160, s_X8_leave_161, s_X8_leave_162, s_X8_leave_165, s_X8_leave_166, s_X8_leave_168, s_X8_leave_169, s_X8_leave_171, s_X8_leave_172, s_X8_leave_173, s_X8_leave_175, s_X8_leave_176, s_X8_leave_177, s_X8_leave_179, s_X8_leave_180, s_X8_leave_181, s_X8_leave_182, s_X8_leave_183, s_X8_leave_184, s_X8_leave_185, s_X8_leave_187, s_X8_leave_189, s_X8_leave_190, s_X8_leave_191, s_X8_leave_194, s_X8_leave_195, s_X8_leave_196, s_X8_leave_199, s_X8_leave_200, s_X8_leave_201, s_X8_leave_202, s_X8_leave_203, s_X8_leave_206, s_X8_leave_208, s_X8_leave_209, s_X8_leave_211, s_X8_leave_212, zN_neg1, nL0, nL1, nL2, nL3, nL4, nL5, nL6, nL7, nL8, nL9, nL10, nL11, nL12, nL13, nL14, nL20, nL21, nL22, nL23, nL25, nL32, nL33, nL39, nL40, nL43, nL44, nL99, nL100, nL120, nL216, nL217, nL218, nL219, nL220, nL221, nL500, nL999, nL1000, nL10000, nL100000, sh33, zN_lt, zN_le, zN_eq, zN_ge0, zN_lt0, zN_nm, zN_mn, zN_mlt, zN_ltm, zN_lem, zN_mle, zN_m1, zN_m2, zN_addm, zN_ofNat, zN_beq, zN_add, zN_sub, zN_mul, zN_rem, qT_lt, qF_lt, qT_le, qF_le, qT_eq, qF_eq, ↓reduceIte, and_true, true_and, false_and, and_false, not_true_eq_false, not_false_eq_true, decide_true, decide_false, Bool.true_or, Bool.or_true, Bool.false_or, Bool.or_false, cond_true, cond_false, ↓md_ld, ↓md_st, qAv, qAn, n_block, m43, b0, hG, hch, chF_o, hwho, hlp2, qD_o, qU_n, qU_s, c0, m32, m218]
        unfold mLv
        rw [if_pos hl]
      · have h1 := free0 (sq := sq + 1) hI (by omega)
        have h2 := (ms (sq + 1) (by omega)).2.2.2 0 (by omega)
        rw [Nat.add_zero] at h2
        by_cases hf : ∀ eq ∈ tC Aq (sq + 1), 0 < eq.1
        · have h3 := h1.mpr hf
          rw [if_pos ⟨hn, hg, Or.inr hf⟩]
          simp (disch := omega) only [s_X8_leave_0, s_X8_leave_1, s_X8_leave_4, s_X8_leave_5, s_X8_leave_6, s_X8_leave_7, s_X8_leave_9, s_X8_leave_10, s_X8_leave_11, s_X8_leave_12, s_X8_leave_15, s_X8_leave_16, s_X8_leave_19, s_X8_leave_20, s_X8_leave_21, s_X8_leave_22, s_X8_leave_25, s_X8_leave_26, s_X8_leave_27, s_X8_leave_28, s_X8_leave_29, s_X8_leave_32, s_X8_leave_34, s_X8_leave_35, s_X8_leave_36, s_X8_leave_37, s_X8_leave_40, s_X8_leave_41, s_X8_leave_44, s_X8_leave_45, s_X8_leave_47, s_X8_leave_48, s_X8_leave_49, s_X8_leave_50, s_X8_leave_51, s_X8_leave_52, s_X8_leave_55, s_X8_leave_57, s_X8_leave_60, s_X8_leave_61, s_X8_leave_62, s_X8_leave_65, s_X8_leave_68, s_X8_leave_69, s_X8_leave_70, s_X8_leave_71, s_X8_leave_74, s_X8_leave_76, s_X8_leave_77, s_X8_leave_78, s_X8_leave_80, s_X8_leave_81, s_X8_leave_83, s_X8_leave_84, s_X8_leave_85, s_X8_leave_87, s_X8_leave_88, s_X8_leave_89, s_X8_leave_90, s_X8_leave_91, s_X8_leave_92, s_X8_leave_93, s_X8_leave_94, s_X8_leave_95, s_X8_leave_96, s_X8_leave_98, s_X8_leave_110, s_X8_leave_111, s_X8_leave_112, s_X8_leave_114, s_X8_leave_115, s_X8_leave_117, s_X8_leave_118, s_X8_leave_119, s_X8_leave_120, s_X8_leave_122, s_X8_leave_123, s_X8_leave_125, s_X8_leave_126, s_X8_leave_127, s_X8_leave_128, s_X8_leave_129, s_X8_leave_130, s_X8_leave_133, s_X8_leave_136, s_X8_leave_137, s_X8_leave_138, s_X8_leave_140, s_X8_leave_141, s_X8_leave_142, s_X8_leave_143, s_X8_leave_145, s_X8_leave_146, s_X8_leave_147, s_X8_leave_148, s_X8_leave_150, s_X8_leave_151, s_X8_leave_152, s_X8_leave_153, s_X8_leave_155, s_X8_leave_156, s_X8_leave_157, s_X8_leave_158, s_X8_leave_159, s_X8_leave_160, s_X8_leave_161, s_X8_leave_162, s_X8_leave_165, s_X8_leave_166, s_X8_leave_168, s_X8_leave_169, s_X8_leave_171, s_X8_leave_172, s_X8_leave_173, s_X8_leave_175, s_X8_leave_176, s_X8_leave_177, s_X8_leave_179, s_X8_leave_180, s_X8_leave_181, s_X8_leave_182, s_X8_leave_183, s_X8_leave_184, s_X8_leave_185, s_X8_leave_187, s_X8_leave_189, s_X8_leave_190, s_X8_leave_191, s_X8_leave_194, s_X8_leave_195, s_X8_leave_196, s_X8_leave_199, s_X8_leave_200, s_X8_leave_201, s_X8_leave_202, s_X8_leave_203, s_X8_leave_206, s_X8_leave_208, s_X8_leave_209, s_X8_leave_211, s_X8_leave_212, zN_neg1, nL0, nL1, nL2, nL3, nL4, nL5, nL6, nL7, nL8, nL9, nL10, nL11, nL12, nL13, nL14, nL20, nL21, nL22, nL23, nL25, nL32, nL33, nL39, nL40, nL43, nL44, nL99, nL100, nL120, nL216, nL217, nL218, nL219, nL220, nL221, nL500, nL999, nL1000, nL10000, nL100000, sh33, zN_lt, zN_le, zN_eq, zN_ge0, zN_lt0, zN_nm, zN_mn, zN_mlt, zN_ltm, zN_lem, zN_mle, zN_m1, zN_m2, zN_addm, zN_ofNat, zN_beq, zN_add, zN_sub, zN_mul, zN_rem, qT_lt, qF_lt, qT_le, qF_le, qT_eq, qF_eq, ↓reduceIte, and_true, true_and, false_and, and_false, not_true_eq_false, not_false_eq_true, decide_true, decide_false, Bool.true_or, Bool.or_true, Bool.false_or, Bool.or_false, cond_true, cond_false, ↓md_ld, ↓md_st, qAv, qAn, n_block, m43, b0, hG, hch, chF_o, hwho, hlp2, qD_o, qU_n, qU_s, c0, m32, m218, h2, h3]
          unfold mLv
          rw [if_neg hl]
        · have h3 : ¬ oV (cO (tC Aq (sq + 1)) 0) = zM := fun h => hf (h1.mp h)
          rw [if_neg (fun h => h.2.2.elim hl hf)]
          simp (disch := omega) only [s_X8_leave_0, s_X8_leave_1, s_X8_leave_4, s_X8_leave_5, s_X8_leave_6, s_X8_leave_7, s_X8_leave_9, s_X8_leave_10, s_X8_leave_11, s_X8_leave_12, s_X8_leave_15, s_X8_leave_16, s_X8_leave_19, s_X8_leave_20, s_X8_leave_21, s_X8_leave_22, s_X8_leave_25, s_X8_leave_26, s_X8_leave_27, s_X8_leave_28, s_X8_leave_29, s_X8_leave_32, s_X8_leave_34, s_X8_leave_35, s_X8_leave_36, s_X8_leave_37, s_X8_leave_40, s_X8_leave_41, s_X8_leave_44, s_X8_leave_45, s_X8_leave_47, s_X8_leave_48, s_X8_leave_49, s_X8_leave_50, s_X8_leave_51, s_X8_leave_52, s_X8_leave_55, s_X8_leave_57, s_X8_leave_60, s_X8_leave_61, s_X8_leave_62, s_X8_leave_65, s_X8_leave_68, zN_neg1, nL0, nL1, nL2, nL3, nL4, nL5, nL6, nL7, nL8, nL9, nL10, nL11, nL12, nL13, nL14, nL20, nL21, nL22, nL23, nL25, nL32, nL33, nL39, nL40, nL43, nL44, nL99, nL100, nL120, nL216, nL217, nL218, nL219, nL220, nL221, nL500, nL999, nL1000, nL10000, nL100000, sh33, zN_lt, zN_le, zN_eq, zN_ge0, zN_lt0, zN_nm, zN_mn, zN_mlt, zN_ltm, zN_lem, zN_mle, zN_m1, zN_m2, zN_addm, zN_ofNat, zN_beq, zN_add, zN_sub, zN_mul, zN_rem, qT_lt, qF_lt, qT_le, qF_le, qT_eq, qF_eq, ↓reduceIte, and_true, true_and, false_and, and_false, not_true_eq_false, not_false_eq_true, decide_true, decide_false, Bool.true_or, Bool.or_true, Bool.false_or, Bool.or_false, cond_true, cond_false, ↓md_ld, qAv, n_block, m43, b0, h2, h3, hG]
    · rw [if_neg hg] at hG
      rw [if_neg (fun h => hg h.2.1)]
      by_cases hl : sq + 1 = tN Aq 0
      · have hl2 : sq = tN Aq 0 - 1 := by omega
        simp (disch := omega) only [s_X8_leave_0, s_X8_leave_1, s_X8_leave_4, s_X8_leave_5, s_X8_leave_6, s_X8_leave_7, s_X8_leave_9, s_X8_leave_10, s_X8_leave_11, s_X8_leave_12, s_X8_leave_15, s_X8_leave_16, s_X8_leave_19, s_X8_leave_20, s_X8_leave_21, s_X8_leave_22, s_X8_leave_25, s_X8_leave_26, s_X8_leave_27, s_X8_leave_28, s_X8_leave_29, s_X8_leave_32, s_X8_leave_34, s_X8_leave_35, s_X8_leave_36, s_X8_leave_37, s_X8_leave_40, s_X8_leave_41, s_X8_leave_44, s_X8_leave_45, s_X8_leave_47, s_X8_leave_48, s_X8_leave_49, s_X8_leave_50, s_X8_leave_51, s_X8_leave_52, s_X8_leave_55, s_X8_leave_57, s_X8_leave_60, s_X8_leave_61, s_X8_leave_62, s_X8_leave_65, s_X8_leave_68, zN_neg1, nL0, nL1, nL2, nL3, nL4, nL5, nL6, nL7, nL8, nL9, nL10, nL11, nL12, nL13, nL14, nL20, nL21, nL22, nL23, nL25, nL32, nL33, nL39, nL40, nL43, nL44, nL99, nL100, nL120, nL216, nL217, nL218, nL219, nL220, nL221, nL500, nL999, nL1000, nL10000, nL100000, sh33, zN_lt, zN_le, zN_eq, zN_ge0, zN_lt0, zN_nm, zN_mn, zN_mlt, zN_ltm, zN_lem, zN_mle, zN_m1, zN_m2, zN_addm, zN_ofNat, zN_beq, zN_add, zN_sub, zN_mul, zN_rem, qT_lt, qF_lt, qT_le, qF_le, qT_eq, qF_eq, ↓reduceIte, and_true, true_and, false_and, and_false, not_true_eq_false, not_false_eq_true, decide_true, decide_false, Bool.true_or, Bool.or_true, Bool.false_or, Bool.or_false, cond_true, cond_false, ↓md_ld, qAv, n_block, m43, b0, hG]
      · have h1 := free0 (sq := sq + 1) hI (by omega)
        have h2 := (ms (sq + 1) (by omega)).2.2.2 0 (by omega)
        rw [Nat.add_zero] at h2
        by_cases hf : ∀ eq ∈ tC Aq (sq + 1), 0 < eq.1
        · have h3 := h1.mpr hf
          simp (disch := omega) only [s_X8_leave_0, s_X8_leave_1, s_X8_leave_4, s_X8_leave_5, s_X8_leave_6, s_X8_leave_7, s_X8_leave_9, s_X8_leave_10, s_X8_leave_11, s_X8_leave_12, s_X8_leave_15, s_X8_leave_16, s_X8_leave_19, s_X8_leave_20, s_X8_leave_21, s_X8_leave_22, s_X8_leave_25, s_X8_leave_26, s_X8_leave_27, s_X8_leave_28, s_X8_leave_29, s_X8_leave_32, s_X8_leave_34, s_X8_leave_35, s_X8_leave_36, s_X8_leave_37, s_X8_leave_40, s_X8_leave_41, s_X8_leave_44, s_X8_leave_45, s_X8_leave_47, s_X8_leave_48, s_X8_leave_49, s_X8_leave_50, s_X8_leave_51, s_X8_leave_52, s_X8_leave_55, s_X8_leave_57, s_X8_leave_60, s_X8_leave_61, s_X8_leave_62, s_X8_leave_65, s_X8_leave_68, zN_neg1, nL0, nL1, nL2, nL3, nL4, nL5, nL6, nL7, nL8, nL9, nL10, nL11, nL12, nL13, nL14, nL20, nL21, nL22, nL23, nL25, nL32, nL33, nL39, nL40, nL43, nL44, nL99, nL100, nL120, nL216, nL217, nL218, nL219, nL220, nL221, nL500, nL999, nL1000, nL10000, nL100000, sh33, zN_lt, zN_le, zN_eq, zN_ge0, zN_lt0, zN_nm, zN_mn, zN_mlt, zN_ltm, zN_lem, zN_mle, zN_m1, zN_m2, zN_addm, zN_ofNat, zN_beq, zN_add, zN_sub, zN_mul, zN_rem, qT_lt, qF_lt, qT_le, qF_le, qT_eq, qF_eq, ↓reduceIte, and_true, true_and, false_and, and_false, not_true_eq_false, not_false_eq_true, decide_true, decide_false, Bool.true_or, Bool.or_true, Bool.false_or, Bool.or_false, cond_true, cond_false, ↓md_ld, qAv, n_block, m43, b0, hG, h2, h3]
        · have h3 : ¬ oV (cO (tC Aq (sq + 1)) 0) = zM := fun h => hf (h1.mp h)
          simp (disch := omega) only [s_X8_leave_0, s_X8_leave_1, s_X8_leave_4, s_X8_leave_5, s_X8_leave_6, s_X8_leave_7, s_X8_leave_9, s_X8_leave_10, s_X8_leave_11, s_X8_leave_12, s_X8_leave_15, s_X8_leave_16, s_X8_leave_19, s_X8_leave_20, s_X8_leave_21, s_X8_leave_22, s_X8_leave_25, s_X8_leave_26, s_X8_leave_27, s_X8_leave_28, s_X8_leave_29, s_X8_leave_32, s_X8_leave_34, s_X8_leave_35, s_X8_leave_36, s_X8_leave_37, s_X8_leave_40, s_X8_leave_41, s_X8_leave_44, s_X8_leave_45, s_X8_leave_47, s_X8_leave_48, s_X8_leave_49, s_X8_leave_50, s_X8_leave_51, s_X8_leave_52, s_X8_leave_55, s_X8_leave_57, s_X8_leave_60, s_X8_leave_61, s_X8_leave_62, s_X8_leave_65, s_X8_leave_68, zN_neg1, nL0, nL1, nL2, nL3, nL4, nL5, nL6, nL7, nL8, nL9, nL10, nL11, nL12, nL13, nL14, nL20, nL21, nL22, nL23, nL25, nL32, nL33, nL39, nL40, nL43, nL44, nL99, nL100, nL120, nL216, nL217, nL218, nL219, nL220, nL221, nL500, nL999, nL1000, nL10000, nL100000, sh33, zN_lt, zN_le, zN_eq, zN_ge0, zN_lt0, zN_nm, zN_mn, zN_mlt, zN_ltm, zN_lem, zN_mle, zN_m1, zN_m2, zN_addm, zN_ofNat, zN_beq, zN_add, zN_sub, zN_mul, zN_rem, qT_lt, qF_lt, qT_le, qF_le, qT_eq, qF_eq, ↓reduceIte, and_true, true_and, false_and, and_false, not_true_eq_false, not_false_eq_true, decide_true, decide_false, Bool.true_or, Bool.or_true, Bool.false_or, Bool.or_false, cond_true, cond_false, ↓md_ld, qAv, n_block, m43, b0, hG, h2, h3]
end QA

/-! the pure part: slots, spots, exchanges in the model's row -/
section QA
variable {so : Nat → Nat} {g : pwG} {aq : Nat} {w : pwW} {Aq Bq : TA} {nq sq kq oq : Nat} {pq rq tq uq : Int32} {fq hq : Nat → Int32}
theorem cO_of {es : List (Nat × Nat)} : ∀ {lm cq : Nat}, cDown lm es → (cq, kq) ∈ es → cO es cq = some kq := by
  induction es with
  | nil => intro lm cq _ h; cases h
  | cons e es ih =>
    intro lm cq hd h
    rcases List.mem_cons.mp h with h | h
    · rw [← h]; exact if_pos rfl
    · have h1 := cDown_lt hd.2 _ h
      have h2 : cq < e.1 := h1
      show (if e.1 = cq then some e.2 else cO es cq) = _
      rw [if_neg (by omega)]; exact ih hd.2 h
theorem lo_rng {zq : Nat} (hI : invT Aq) (h : (kq, zq) ∈ lAll Aq) : (22 ≤ zq ∧ zq < 32) ∨ (33 ≤ zq ∧ zq < 43) ∨ ∃ s2, s2 < 4 ∧ ((44 + 43 * s2 + 6 ≤ zq ∧ zq < 44 + 43 * s2 + 12) ∨ (44 + 43 * s2 + 23 ≤ zq ∧ zq < 44 + 43 * s2 + 43)) := by
  have h4 := hI.1
  have hcl := come_len hI
  have hsp := len_split hI (Nat.zero_le _)
  have hD : (fDn Aq 0).length = (tL Aq 1).length := by unfold fDn; rw [List.length_map]
  rcases lo_mem.mp h with ⟨iq, h1, h2⟩ | ⟨iq, h1, h2⟩ | ⟨s2, hs, ⟨iq, h1, h2⟩ | ⟨cq, h1, h2⟩⟩
  · have := (List.getElem?_eq_some_iff.mp h1).1
    right; left; omega
  · have := (List.getElem?_eq_some_iff.mp h1).1
    left; omega
  · have := (List.getElem?_eq_some_iff.mp h1).1
    obtain ⟨⟨⟨i1, i2⟩, ⟨i3, i4⟩, i5, i6, i7, i8⟩, i9, i10, i11⟩ := hI.2.2 s2 hs
    right; right; exact ⟨s2, by omega, Or.inl (by omega)⟩
  · obtain ⟨⟨⟨i1, i2⟩, ⟨i3, i4⟩, i5, i6, i7, i8⟩, i9, i10, i11⟩ := hI.2.2 s2 hs
    have h3 : cq < tN Aq (4 + s2) := cDown_lt i10 _ h1
    right; right; exact ⟨s2, by omega, Or.inr (by omega)⟩
theorem lo_lt {zq : Nat} (hI : invT Aq) (h : (kq, zq) ∈ lAll Aq) : zq < 216 := by
  rcases lo_rng hI h with h1 | h1 | ⟨s2, h2, h3⟩ <;> omega
theorem lo_f {zq : Nat} (hI : invT Aq) (hz : repM Aq fq) (h : (kq, zq) ∈ lAll Aq) : fq zq = zN kq := by
  obtain ⟨-, -, ⟨m21, mst⟩, ⟨m32, mco⟩, ms⟩ := hz
  rcases lo_mem.mp h with ⟨iq, h1, h2⟩ | ⟨iq, h1, h2⟩ | ⟨s2, hs, ⟨iq, h1, h2⟩ | ⟨cq, h1, h2⟩⟩
  · rw [h2]; exact mco iq kq h1
  · rw [h2]; exact mst iq kq h1
  · rw [h2]; exact (ms s2 hs).2.1.2 iq kq h1
  · obtain ⟨⟨⟨i1, i2⟩, -⟩, i9, i10, i11⟩ := hI.2.2 s2 hs
    have h3 : cq < tN Aq (4 + s2) := cDown_lt i10 _ h1
    rw [h2, (ms s2 hs).2.2.2 cq (by omega), cO_of i10 h1]; rfl
theorem n_sl64 (hI : invT Aq) (hz : repM Aq fq) (hk : kq < tN Aq 1) : ∀ (dq sz : Nat) (o3 o4 : Option Value), sz + dq = tN Aq 0 → (∃ s2, sz ≤ s2 ∧ s2 < tN Aq 0 ∧ (kq ∈ tL Aq (4 + s2) ∨ ∃ cq, (cq, kq) ∈ tC Aq s2)) → ∃ zq, (kq, zq) ∈ lAll Aq ∧ pwX so 145 64 [some (.ref aq), some (.int (zN kq)), some (.int (zN sz)), o3, o4] [] g (mkA aq 221 fq w) = some (.inl (some (.int (zN zq))), g, (mkA aq 221 fq w)) := by
  have h4 := hI.1
  have m43 := hz.1.2.1
  intro dq
  induction dq with
  | zero =>
    intro sz o3 o4 e1 hx
    obtain ⟨s2, a, b, -⟩ := hx
    omega
  | succ dq ih =>
    intro sz o3 o4 e1 hx
    have hs : sz < tN Aq 0 := by omega
    obtain ⟨⟨a0, -⟩, ⟨b0, b1⟩, -, d⟩ := hz.2.2.2.2 sz hs
    obtain ⟨⟨⟨i1, i2⟩, ⟨i3, i4⟩, i5, i6, i7, i8⟩, i9, i10, i11⟩ := hI.2.2 sz hs
    have hw := walk_lt hI hs
    have go : pwX so 145 64 [some (.ref aq), some (.int (zN kq)), some (.int (zN sz)), o3, o4] [] g (mkA aq 221 fq w) = pwX so 145 80 [some (.ref aq), some (.int (zN kq)), some (.int (zN sz)), some (.int (zN (44 + 43 * sz))), some (.int (zN 0))] [] g (mkA aq 221 fq w) := by
      rw [s_X8_slot_64]
      simp (disch := omega) only [s_X8_slot_65, s_X8_slot_66, s_X8_slot_68, s_X8_slot_69, s_X8_slot_72, s_X8_slot_73, s_X8_slot_76, s_X8_slot_77, s_X8_slot_78, ↓md_ld, zN_neg1, nL0, nL1, nL2, nL3, nL4, nL5, nL6, nL7, nL8, nL9, nL10, nL11, nL12, nL13, nL14, nL20, nL21, nL22, nL23, nL25, nL32, nL33, nL39, nL40, nL43, nL44, nL99, nL100, nL120, nL216, nL217, nL218, nL219, nL220, nL221, nL500, nL999, nL1000, nL10000, nL100000, sh33, zN_lt, zN_le, zN_eq, zN_ge0, zN_lt0, zN_nm, zN_mn, zN_mlt, zN_ltm, zN_lem, zN_mle, zN_m1, zN_m2, zN_addm, zN_ofNat, zN_beq, zN_add, zN_sub, zN_mul, zN_rem, qT_lt, qF_lt, qT_le, qF_le, qT_eq, qF_eq, ↓reduceIte, and_true, true_and, false_and, and_false, not_true_eq_false, not_false_eq_true, decide_true, decide_false, Bool.true_or, Bool.or_true, Bool.false_or, Bool.or_false, cond_true, cond_false, m43, qAv, n_block]
    rw [go]
    rcases @n_sl80 so g aq w sz kq fq (tL Aq (4 + sz)) (by omega) b0 b1 (by omega) (by omega) (fun v9 hv => by have := hw.1 v9 hv; omega) (tL Aq (4 + sz)) [] rfl with ⟨iq, j1, j2⟩ | ⟨j1, j2⟩
    · exact ⟨_, lo_mem.mpr (Or.inr (Or.inr ⟨sz, hs, Or.inl ⟨iq, j1, rfl⟩⟩)), j2⟩
    · have j2 : pwX so 145 80 [some (.ref aq), some (.int (zN kq)), some (.int (zN sz)), some (.int (zN (44 + 43 * sz))), some (.int (zN 0))] [] g (mkA aq 221 fq w) = _ := j2
      rw [j2]
      rcases @n_sl120 so g aq w sz kq fq (tC Aq sz) (tN Aq (4 + sz)) (by omega) a0 i2 d (by omega) (fun e9 he => by have := hw.2 e9 he; omega) (tN Aq (4 + sz)) 0 (by omega) with ⟨cq, l1, l2⟩ | ⟨l1, p3, p4, l2⟩
      · exact ⟨_, lo_mem.mpr (Or.inr (Or.inr ⟨sz, hs, Or.inr ⟨cq, l1, rfl⟩⟩)), l2⟩
      · rw [l2]
        refine ih (sz + 1) p3 p4 (by omega) ?_
        obtain ⟨s2, a, b, c⟩ := hx
        by_cases hy : s2 = sz
        · exfalso
          subst hy
          rcases c with c | ⟨cq, c⟩
          · exact j1 c
          · exact l1 cq (Nat.zero_le _) (cDown_lt i10 _ c) (cO_of i10 c)
        · exact ⟨s2, by omega, b, c⟩
theorem n_slot (hI : invT Aq) (hz : repM Aq fq) (hk : kq < tN Aq 1) : ∃ zq, (kq, zq) ∈ lAll Aq ∧ pwX so 145 0 [some (.ref aq), some (.int (zN kq)), none, none, none] [] g (mkA aq 221 fq w) = some (.inl (some (.int (zN zq))), g, (mkA aq 221 fq w)) := by
  have h4 := hI.1
  have hz2 := hz
  obtain ⟨-, -, ⟨m21, mst⟩, ⟨m32, mco⟩, -⟩ := hz2
  have hcl := come_len hI
  have hsp := len_split hI (Nat.zero_le _)
  have hD : (fDn Aq 0).length = (tL Aq 1).length := by unfold fDn; rw [List.length_map]
  have hall := hI.2.1.2.2
  have hst : ∀ v9 ∈ tL Aq 1, v9 < 10 := fun v9 hv => by
    have := hall v9 (by rw [wDn_eq 0 (Nat.zero_le _)]; exact List.mem_append_right _ hv)
    omega
  have hco : ∀ v9 ∈ tL Aq 0, v9 < 10 := fun v9 hv => by
    have := hall v9 (List.mem_append_left _ hv)
    omega
  rw [s_X8_slot_0, s_X8_slot_1, nL0]
  rcases @n_sl2 so g aq w kq fq (tL Aq 1) m21 mst (by omega) (by omega) hst (tL Aq 1) [] rfl with ⟨iq, j1, j2⟩ | ⟨j1, j2⟩
  · exact ⟨_, lo_mem.mpr (Or.inr (Or.inl ⟨iq, j1, rfl⟩)), j2⟩
  · have j2 : pwX so 145 2 [some (.ref aq), some (.int (zN kq)), some (.int (zN 0)), none, none] [] g (mkA aq 221 fq w) = _ := j2
    rw [j2]
    rcases @n_sl33 so g aq w kq fq (tL Aq 0) m32 mco (by omega) (by omega) hco (tL Aq 0) [] rfl with ⟨iq, l1, l2⟩ | ⟨l1, l2⟩
    · exact ⟨_, lo_mem.mpr (Or.inl ⟨iq, l1, rfl⟩), l2⟩
    · have l2 : pwX so 145 33 [some (.ref aq), some (.int (zN kq)), some (.int (zN 0)), none, none] [] g (mkA aq 221 fq w) = _ := l2
      rw [l2]
      obtain ⟨zq, hq⟩ := lo_ex hI hk
      refine @n_sl64 so g aq w Aq kq fq hI hz hk (tN Aq 0) 0 none none (by omega) ?_
      rcases lo_mem.mp hq with ⟨iq, h1, h2⟩ | ⟨iq, h1, h2⟩ | ⟨s2, hs, ⟨iq, h1, h2⟩ | ⟨cq, h1, h2⟩⟩
      · exact absurd (List.mem_of_getElem? h1) l1
      · exact absurd (List.mem_of_getElem? h1) j1
      · exact ⟨s2, Nat.zero_le _, hs, Or.inl (List.mem_of_getElem? h1)⟩
      · exact ⟨s2, Nat.zero_le _, hs, Or.inr ⟨cq, h1⟩⟩
def spo (zq : Nat) : Nat := if zq < 44 then (if zq < 32 then 0 else 3) else if 23 ≤ (zq - 44) % 43 then 1 else 2
theorem n_spot {zq : Nat} (h : zq < 221) : pwX so 146 0 [some (.int (zN zq))] [] g w = some (.inl (some (.int (zN (spo zq)))), g, w) := by
  unfold spo
  by_cases h1 : zq < 44
  · rw [if_pos h1]
    by_cases h2 : zq < 32
    · rw [if_pos h2]
      simp (disch := omega) only [s_X8_spot_0, s_X8_spot_1, s_X8_spot_3, s_X8_spot_6, s_X8_spot_7, s_X8_spot_9, s_X8_spot_12, s_X8_spot_13, s_X8_spot_16, s_X8_spot_17, s_X8_spot_18, s_X8_spot_19, s_X8_spot_21, s_X8_spot_22, s_X8_spot_24, s_X8_spot_25, s_X8_spot_27, s_X8_spot_30, s_X8_spot_31, s_X8_spot_34, s_X8_spot_35, zN_neg1, nL0, nL1, nL2, nL3, nL4, nL5, nL6, nL7, nL8, nL9, nL10, nL11, nL12, nL13, nL14, nL20, nL21, nL22, nL23, nL25, nL32, nL33, nL39, nL40, nL43, nL44, nL99, nL100, nL120, nL216, nL217, nL218, nL219, nL220, nL221, nL500, nL999, nL1000, nL10000, nL100000, sh33, zN_lt, zN_le, zN_eq, zN_ge0, zN_lt0, zN_nm, zN_mn, zN_mlt, zN_ltm, zN_lem, zN_mle, zN_m1, zN_m2, zN_addm, zN_ofNat, zN_beq, zN_add, zN_sub, zN_mul, zN_rem, qT_lt, qF_lt, qT_le, qF_le, qT_eq, qF_eq, ↓reduceIte, and_true, true_and, false_and, and_false, not_true_eq_false, not_false_eq_true, decide_true, decide_false, Bool.true_or, Bool.or_true, Bool.false_or, Bool.or_false, cond_true, cond_false]
    · rw [if_neg h2]
      simp (disch := omega) only [s_X8_spot_0, s_X8_spot_1, s_X8_spot_3, s_X8_spot_6, s_X8_spot_7, s_X8_spot_9, s_X8_spot_12, s_X8_spot_13, s_X8_spot_16, s_X8_spot_17, s_X8_spot_18, s_X8_spot_19, s_X8_spot_21, s_X8_spot_22, s_X8_spot_24, s_X8_spot_25, s_X8_spot_27, s_X8_spot_30, s_X8_spot_31, s_X8_spot_34, s_X8_spot_35, zN_neg1, nL0, nL1, nL2, nL3, nL4, nL5, nL6, nL7, nL8, nL9, nL10, nL11, nL12, nL13, nL14, nL20, nL21, nL22, nL23, nL25, nL32, nL33, nL39, nL40, nL43, nL44, nL99, nL100, nL120, nL216, nL217, nL218, nL219, nL220, nL221, nL500, nL999, nL1000, nL10000, nL100000, sh33, zN_lt, zN_le, zN_eq, zN_ge0, zN_lt0, zN_nm, zN_mn, zN_mlt, zN_ltm, zN_lem, zN_mle, zN_m1, zN_m2, zN_addm, zN_ofNat, zN_beq, zN_add, zN_sub, zN_mul, zN_rem, qT_lt, qF_lt, qT_le, qF_le, qT_eq, qF_eq, ↓reduceIte, and_true, true_and, false_and, and_false, not_true_eq_false, not_false_eq_true, decide_true, decide_false, Bool.true_or, Bool.or_true, Bool.false_or, Bool.or_false, cond_true, cond_false]
  · rw [if_neg h1]
    by_cases h2 : 23 ≤ (zq - 44) % 43
    · rw [if_pos h2]
      simp (disch := omega) only [s_X8_spot_0, s_X8_spot_1, s_X8_spot_3, s_X8_spot_6, s_X8_spot_7, s_X8_spot_9, s_X8_spot_12, s_X8_spot_13, s_X8_spot_16, s_X8_spot_17, s_X8_spot_18, s_X8_spot_19, s_X8_spot_21, s_X8_spot_22, s_X8_spot_24, s_X8_spot_25, s_X8_spot_27, s_X8_spot_30, s_X8_spot_31, s_X8_spot_34, s_X8_spot_35, zN_neg1, nL0, nL1, nL2, nL3, nL4, nL5, nL6, nL7, nL8, nL9, nL10, nL11, nL12, nL13, nL14, nL20, nL21, nL22, nL23, nL25, nL32, nL33, nL39, nL40, nL43, nL44, nL99, nL100, nL120, nL216, nL217, nL218, nL219, nL220, nL221, nL500, nL999, nL1000, nL10000, nL100000, sh33, zN_lt, zN_le, zN_eq, zN_ge0, zN_lt0, zN_nm, zN_mn, zN_mlt, zN_ltm, zN_lem, zN_mle, zN_m1, zN_m2, zN_addm, zN_ofNat, zN_beq, zN_add, zN_sub, zN_mul, zN_rem, qT_lt, qF_lt, qT_le, qF_le, qT_eq, qF_eq, ↓reduceIte, and_true, true_and, false_and, and_false, not_true_eq_false, not_false_eq_true, decide_true, decide_false, Bool.true_or, Bool.or_true, Bool.false_or, Bool.or_false, cond_true, cond_false]
    · rw [if_neg h2]
      simp (disch := omega) only [s_X8_spot_0, s_X8_spot_1, s_X8_spot_3, s_X8_spot_6, s_X8_spot_7, s_X8_spot_9, s_X8_spot_12, s_X8_spot_13, s_X8_spot_16, s_X8_spot_17, s_X8_spot_18, s_X8_spot_19, s_X8_spot_21, s_X8_spot_22, s_X8_spot_24, s_X8_spot_25, s_X8_spot_27, s_X8_spot_30, s_X8_spot_31, s_X8_spot_34, s_X8_spot_35, zN_neg1, nL0, nL1, nL2, nL3, nL4, nL5, nL6, nL7, nL8, nL9, nL10, nL11, nL12, nL13, nL14, nL20, nL21, nL22, nL23, nL25, nL32, nL33, nL39, nL40, nL43, nL44, nL99, nL100, nL120, nL216, nL217, nL218, nL219, nL220, nL221, nL500, nL999, nL1000, nL10000, nL100000, sh33, zN_lt, zN_le, zN_eq, zN_ge0, zN_lt0, zN_nm, zN_mn, zN_mlt, zN_ltm, zN_lem, zN_mle, zN_m1, zN_m2, zN_addm, zN_ofNat, zN_beq, zN_add, zN_sub, zN_mul, zN_rem, qT_lt, qF_lt, qT_le, qF_le, qT_eq, qF_eq, ↓reduceIte, and_true, true_and, false_and, and_false, not_true_eq_false, not_false_eq_true, decide_true, decide_false, Bool.true_or, Bool.or_true, Bool.false_or, Bool.or_false, cond_true, cond_false]
theorem ent_of (hI : invT Aq) (hk : kq < tN Aq 1) {eq : Ent} (he : eq ∈ fAll Aq) (h1 : eq.1 = zN kq) : eq = entK Aq kq := by
  have h4 := hI.1
  obtain ⟨jq, hj, h2⟩ := List.getElem_of_mem he
  have hj2 : jq < tN Aq 1 := by rw [fAll_len, hI.2.1.1] at hj; exact hj
  obtain ⟨k9, e1, e2, -⟩ := w_get hI hj2
  have h3 := congrArg (fun ls : List Int32 => ls[jq]?) (@fAll_w Aq)
  simp only [List.getElem?_map, List.getElem?_eq_getElem hj, e1, Option.map_some, Option.some.injEq] at h3
  rw [h2, h1, zN_eq (by omega) (by omega)] at h3
  subst h3
  have h5 := w_inj hI e1 (plc_get hI hk)
  have h6 := ent_get hI hk
  rw [← h5, List.getElem?_eq_getElem hj, h2] at h6
  exact Option.some.inj h6
theorem fDn_mem : ∀ jq, ∀ eq : Ent, eq ∈ fDn Aq jq ↔ (∃ k9 ∈ tL Aq 1, eq = eSt k9) ∨ ∃ s2, s2 < jq ∧ ((∃ k9 ∈ tL Aq (4 + s2), eq = eCr s2 k9) ∨ ∃ e9 ∈ tC Aq s2, eq = eCe s2 e9) := by
  intro jq
  induction jq with
  | zero =>
    intro eq
    unfold fDn
    rw [List.mem_map]
    constructor
    · rintro ⟨k9, h1, h2⟩; exact Or.inl ⟨k9, h1, h2.symm⟩
    · rintro (⟨k9, h1, h2⟩ | ⟨s2, h1, -⟩)
      · exact ⟨k9, h1, h2.symm⟩
      · exact absurd h1 (Nat.not_lt_zero _)
  | succ jq ih =>
    intro eq
    unfold fDn fSt
    rw [List.mem_append, List.mem_append, List.mem_map, List.mem_map, ih]
    constructor
    · rintro ((⟨k9, h1, h2⟩ | ⟨e9, h1, h2⟩) | h | ⟨s2, h1, h2⟩)
      · exact Or.inr ⟨jq, Nat.lt_succ_self _, Or.inl ⟨k9, h1, h2.symm⟩⟩
      · exact Or.inr ⟨jq, Nat.lt_succ_self _, Or.inr ⟨e9, h1, h2.symm⟩⟩
      · exact Or.inl h
      · exact Or.inr ⟨s2, by omega, h2⟩
    · rintro (h | ⟨s2, h1, h2⟩)
      · exact Or.inr (Or.inl h)
      · by_cases hx : s2 = jq
        · subst hx
          rcases h2 with ⟨k9, h2, h3⟩ | ⟨e9, h2, h3⟩
          · exact Or.inl (Or.inl ⟨k9, h2, h3.symm⟩)
          · exact Or.inl (Or.inr ⟨e9, h2, h3.symm⟩)
        · exact Or.inr (Or.inr ⟨s2, by omega, h2⟩)
/-- the place in the row and the entry of the file tell the same -/
theorem lo_ent {zq : Nat} (hI : invT Aq) (hk : kq < tN Aq 1) (h : (kq, zq) ∈ lAll Aq) : (entK Aq kq).2.1 = zN (spo zq) ∧ (entK Aq kq).2.2.1 = (if spo zq = 1 ∨ spo zq = 2 then zN ((zq - 44) / 43) else zM) ∧ (entK Aq kq).2.2.2 = (if spo zq = 1 then zN ((zq - 44) % 43 - 23) else zM) ∧ (spo zq = 3 ↔ kq ∈ tL Aq 0) := by
  have h4 := hI.1
  have hcl := come_len hI
  have hsp := len_split hI (Nat.zero_le _)
  have hD : (fDn Aq 0).length = (tL Aq 1).length := by unfold fDn; rw [List.length_map]
  have hcome : kq ∈ tL Aq 0 → ∃ iq, (tL Aq 0)[iq]? = some kq := fun hh => by
    obtain ⟨iq, hi, h2⟩ := List.getElem_of_mem hh
    exact ⟨iq, by rw [List.getElem?_eq_getElem hi, h2]⟩
  have hc3 : kq ∈ tL Aq 0 → 33 ≤ zq ∧ zq < 43 := fun hh => by
    obtain ⟨iq, h1⟩ := hcome hh
    have h2 := (List.getElem?_eq_some_iff.mp h1).1
    have h3 := lo_inj hI h (lo_mem.mpr (Or.inl ⟨iq, h1, rfl⟩))
    omega
  rcases lo_mem.mp h with ⟨iq, h1, h2⟩ | ⟨iq, h1, h2⟩ | ⟨s2, hs, ⟨iq, h1, h2⟩ | ⟨cq, h1, h2⟩⟩
  · have h3 := (List.getElem?_eq_some_iff.mp h1).1
    have he : eCome kq = entK Aq kq := ent_of hI hk (List.mem_append_left _ (List.mem_map_of_mem (List.mem_of_getElem? h1))) rfl
    have hs3 : spo zq = 3 := by unfold spo; rw [if_pos (by omega), if_neg (by omega)]
    rw [← he, hs3]
    exact ⟨rfl, rfl, rfl, fun _ => List.mem_of_getElem? h1, fun _ => rfl⟩
  · have h3 := (List.getElem?_eq_some_iff.mp h1).1
    have he : eSt kq = entK Aq kq := ent_of hI hk (List.mem_append_right _ ((fDn_mem _ _).mpr (Or.inl ⟨kq, List.mem_of_getElem? h1, rfl⟩))) rfl
    have hs3 : spo zq = 0 := by unfold spo; rw [if_pos (by omega), if_pos (by omega)]
    rw [← he, hs3]
    exact ⟨rfl, rfl, rfl, fun hh => absurd hh (by decide), fun hh => by have := hc3 hh; omega⟩
  · have h3 := (List.getElem?_eq_some_iff.mp h1).1
    obtain ⟨⟨⟨i1, i2⟩, ⟨i3, i4⟩, i5, i6, i7, i8⟩, i9, i10, i11⟩ := hI.2.2 s2 hs
    have he : eCr s2 kq = entK Aq kq := ent_of hI hk (List.mem_append_right _ ((fDn_mem _ _).mpr (Or.inr ⟨s2, hs, Or.inl ⟨kq, List.mem_of_getElem? h1, rfl⟩⟩))) rfl
    have e1 : zq - 44 = 43 * s2 + (6 + iq) := by omega
    have e2 : (zq - 44) % 43 = 6 + iq := by rw [e1]; omega
    have e3 : (zq - 44) / 43 = s2 := by rw [e1]; omega
    have hs3 : spo zq = 2 := by unfold spo; rw [if_neg (by omega), e2, if_neg (by omega)]
    rw [← he, hs3, e3]
    exact ⟨rfl, rfl, rfl, fun hh => absurd hh (by decide), fun hh => by have := hc3 hh; omega⟩
  · obtain ⟨⟨⟨i1, i2⟩, ⟨i3, i4⟩, i5, i6, i7, i8⟩, i9, i10, i11⟩ := hI.2.2 s2 hs
    have h3 : cq < tN Aq (4 + s2) := cDown_lt i10 _ h1
    have he : eCe s2 (cq, kq) = entK Aq kq := ent_of hI hk (List.mem_append_right _ ((fDn_mem _ _).mpr (Or.inr ⟨s2, hs, Or.inr ⟨(cq, kq), h1, rfl⟩⟩))) rfl
    have e1 : zq - 44 = 43 * s2 + (23 + cq) := by omega
    have e2 : (zq - 44) % 43 = 23 + cq := by rw [e1]; omega
    have e3 : (zq - 44) / 43 = s2 := by rw [e1]; omega
    have hs3 : spo zq = 1 := by unfold spo; rw [if_neg (by omega), e2, if_pos (by omega)]
    rw [← he, hs3, e3, e2, Nat.add_sub_cancel_left]
    exact ⟨rfl, rfl, rfl, fun hh => absurd hh (by decide), fun hh => by have := hc3 hh; omega⟩
theorem n_canEx (hI : invT Aq) (hz : repM Aq fq) (hk : kq < tN Aq 1) (ho : oq < tN Aq 1) : pwX so 167 0 [some (.ref aq), some (.int (zN kq)), some (.int (zN oq))] [] g (mkA aq 221 fq w) = some (.inl (some (.int (if ¬ kq ∈ tL Aq 0 ∧ ¬ oq ∈ tL Aq 0 then zN 1 else zN 0))), g, (mkA aq 221 fq w)) := by
  obtain ⟨z1, a1, a2⟩ := @n_slot so g aq w Aq kq fq hI hz hk
  obtain ⟨z2, b1, b2⟩ := @n_slot so g aq w Aq oq fq hI hz ho
  have l1 := lo_lt hI a1
  have l2 := lo_lt hI b1
  have c1 := (lo_ent hI hk a1).2.2.2
  have c2 := (lo_ent hI ho b1).2.2.2
  have s1 : spo z1 ≤ 3 := by unfold spo; split; split <;> decide; split <;> decide
  have s2 : spo z2 ≤ 3 := by unfold spo; split; split <;> decide; split <;> decide
  by_cases x1 : kq ∈ tL Aq 0
  · rw [if_neg (fun h => h.1 x1)]
    have y1 := c1.mpr x1
    simp (disch := omega) only [s_X8_canExchange_0, s_X8_canExchange_1, s_X8_canExchange_2, s_X8_canExchange_5, s_X8_canExchange_8, s_X8_canExchange_9, s_X8_canExchange_12, s_X8_canExchange_13, s_X8_canExchange_14, s_X8_canExchange_17, s_X8_canExchange_20, s_X8_canExchange_21, s_X8_canExchange_24, s_X8_canExchange_25, s_X8_canExchange_28, s_X8_canExchange_29, zN_neg1, nL0, nL1, nL2, nL3, nL4, nL5, nL6, nL7, nL8, nL9, nL10, nL11, nL12, nL13, nL14, nL20, nL21, nL22, nL23, nL25, nL32, nL33, nL39, nL40, nL43, nL44, nL99, nL100, nL120, nL216, nL217, nL218, nL219, nL220, nL221, nL500, nL999, nL1000, nL10000, nL100000, sh33, zN_lt, zN_le, zN_eq, zN_ge0, zN_lt0, zN_nm, zN_mn, zN_mlt, zN_ltm, zN_lem, zN_mle, zN_m1, zN_m2, zN_addm, zN_ofNat, zN_beq, zN_add, zN_sub, zN_mul, zN_rem, qT_lt, qF_lt, qT_le, qF_le, qT_eq, qF_eq, ↓reduceIte, and_true, true_and, false_and, and_false, not_true_eq_false, not_false_eq_true, decide_true, decide_false, Bool.true_or, Bool.or_true, Bool.false_or, Bool.or_false, cond_true, cond_false, qAv, a2, n_spot, y1, qbi, qb1, qb0]
  · have y1 : ¬ spo z1 = 3 := fun h => x1 (c1.mp h)
    by_cases x2 : oq ∈ tL Aq 0
    · rw [if_neg (fun h => h.2 x2)]
      have y2 := c2.mpr x2
      simp (disch := omega) only [s_X8_canExchange_0, s_X8_canExchange_1, s_X8_canExchange_2, s_X8_canExchange_5, s_X8_canExchange_8, s_X8_canExchange_9, s_X8_canExchange_12, s_X8_canExchange_13, s_X8_canExchange_14, s_X8_canExchange_17, s_X8_canExchange_20, s_X8_canExchange_21, s_X8_canExchange_24, s_X8_canExchange_25, s_X8_canExchange_28, s_X8_canExchange_29, zN_neg1, nL0, nL1, nL2, nL3, nL4, nL5, nL6, nL7, nL8, nL9, nL10, nL11, nL12, nL13, nL14, nL20, nL21, nL22, nL23, nL25, nL32, nL33, nL39, nL40, nL43, nL44, nL99, nL100, nL120, nL216, nL217, nL218, nL219, nL220, nL221, nL500, nL999, nL1000, nL10000, nL100000, sh33, zN_lt, zN_le, zN_eq, zN_ge0, zN_lt0, zN_nm, zN_mn, zN_mlt, zN_ltm, zN_lem, zN_mle, zN_m1, zN_m2, zN_addm, zN_ofNat, zN_beq, zN_add, zN_sub, zN_mul, zN_rem, qT_lt, qF_lt, qT_le, qF_le, qT_eq, qF_eq, ↓reduceIte, and_true, true_and, false_and, and_false, not_true_eq_false, not_false_eq_true, decide_true, decide_false, Bool.true_or, Bool.or_true, Bool.false_or, Bool.or_false, cond_true, cond_false, qAv, a2, b2, n_spot, y2, qbi, qb1, qb0]
    · rw [if_pos ⟨x1, x2⟩]
      have y2 : ¬ spo z2 = 3 := fun h => x2 (c2.mp h)
      simp (disch := omega) only [s_X8_canExchange_0, s_X8_canExchange_1, s_X8_canExchange_2, s_X8_canExchange_5, s_X8_canExchange_8, s_X8_canExchange_9, s_X8_canExchange_12, s_X8_canExchange_13, s_X8_canExchange_14, s_X8_canExchange_17, s_X8_canExchange_20, s_X8_canExchange_21, s_X8_canExchange_24, s_X8_canExchange_25, s_X8_canExchange_28, s_X8_canExchange_29, zN_neg1, nL0, nL1, nL2, nL3, nL4, nL5, nL6, nL7, nL8, nL9, nL10, nL11, nL12, nL13, nL14, nL20, nL21, nL22, nL23, nL25, nL32, nL33, nL39, nL40, nL43, nL44, nL99, nL100, nL120, nL216, nL217, nL218, nL219, nL220, nL221, nL500, nL999, nL1000, nL10000, nL100000, sh33, zN_lt, zN_le, zN_eq, zN_ge0, zN_lt0, zN_nm, zN_mn, zN_mlt, zN_ltm, zN_lem, zN_mle, zN_m1, zN_m2, zN_addm, zN_ofNat, zN_beq, zN_add, zN_sub, zN_mul, zN_rem, qT_lt, qF_lt, qT_le, qF_le, qT_eq, qF_eq, ↓reduceIte, and_true, true_and, false_and, and_false, not_true_eq_false, not_false_eq_true, decide_true, decide_false, Bool.true_or, Bool.or_true, Bool.false_or, Bool.or_false, cond_true, cond_false, qAv, a2, b2, n_spot, qbi, qb1, qb0]
end QA

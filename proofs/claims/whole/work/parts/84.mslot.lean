/-! the pure part: where a walker stands in the model's row -/
def en (bz : Nat) : List Nat → List (Nat × Nat)
  | [] => []
  | kq :: ks => (kq, bz) :: en (bz + 1) ks
def lDn (Aq : TA) : Nat → List (Nat × Nat)
  | 0 => en 22 (tL Aq 1)
  | jq + 1 => en (44 + 43 * jq + 6) (tL Aq (4 + jq)) ++ (tC Aq jq).map (fun eq => (eq.2, 44 + 43 * jq + 23 + eq.1)) ++ lDn Aq jq
/-- each walker with its place in the row, by the file -/
def lAll (Aq : TA) : List (Nat × Nat) := en 33 (tL Aq 0) ++ lDn Aq (tN Aq 0)
theorem en_fst : ∀ (ls : List Nat) (bz : Nat), (en bz ls).map Prod.fst = ls
  | [], _ => rfl
  | kq :: ks, bz => by unfold en; rw [List.map_cons, en_fst ks]
theorem en_mem {kq zq : Nat} : ∀ (ls : List Nat) (bz : Nat), (kq, zq) ∈ en bz ls ↔ ∃ iq, ls[iq]? = some kq ∧ zq = bz + iq := by
  intro ls
  induction ls with
  | nil =>
    intro bz
    refine ⟨fun h => (by cases h), fun h => ?_⟩
    obtain ⟨iq, h, -⟩ := h
    cases h
  | cons aq ls ih =>
    intro bz
    unfold en
    rw [List.mem_cons, ih (bz + 1)]
    constructor
    · rintro (h | ⟨iq, h1, h2⟩)
      · cases h; exact ⟨0, rfl, rfl⟩
      · exact ⟨iq + 1, h1, by omega⟩
    · rintro ⟨iq, h1, h2⟩
      cases iq with
      | zero => left; cases h1; rw [h2]; rfl
      | succ iq => right; exact ⟨iq, h1, by omega⟩
theorem lDn_fst {Aq : TA} : ∀ jq, (lDn Aq jq).map Prod.fst = wDn Aq jq := by
  intro jq
  induction jq with
  | zero => unfold lDn wDn; exact en_fst _ _
  | succ jq ih =>
    unfold lDn wDn
    rw [List.map_append, List.map_append, en_fst, ih, List.map_map]; rfl
theorem lAll_fst {Aq : TA} : (lAll Aq).map Prod.fst = wAll Aq := by
  unfold lAll wAll
  rw [List.map_append, en_fst, lDn_fst]
theorem fst_inj : ∀ {ls : List (Nat × Nat)}, (ls.map Prod.fst).Nodup → ∀ {kq za zb : Nat}, (kq, za) ∈ ls → (kq, zb) ∈ ls → za = zb := by
  intro ls
  induction ls with
  | nil => intro _ kq za zb h; cases h
  | cons e ls ih =>
    intro hn kq za zb h1 h2
    rw [List.map_cons, List.nodup_cons] at hn
    rcases List.mem_cons.mp h1 with h1 | h1
    · rcases List.mem_cons.mp h2 with h2 | h2
      · rw [← h1] at h2; exact (congrArg Prod.snd h2).symm
      · exact absurd (List.mem_map_of_mem (f := Prod.fst) h2) (by rw [← h1] at hn; exact hn.1)
    · rcases List.mem_cons.mp h2 with h2 | h2
      · exact absurd (List.mem_map_of_mem (f := Prod.fst) h1) (by rw [← h2] at hn; exact hn.1)
      · exact ih hn.2 h1 h2
section QA
variable {so : Nat → Nat} {g : pwG} {aq : Nat} {w : pwW} {Aq Bq : TA} {nq sq kq oq : Nat} {pq rq tq uq : Int32} {fq hq : Nat → Int32}
theorem lo_inj (hI : invT Aq) {za zb : Nat} (h1 : (kq, za) ∈ lAll Aq) (h2 : (kq, zb) ∈ lAll Aq) : za = zb :=
  fst_inj (by rw [lAll_fst]; exact hI.2.1.2.1) h1 h2
theorem lo_ex (hI : invT Aq) (hk : kq < tN Aq 1) : ∃ zq, (kq, zq) ∈ lAll Aq := by
  have h := plc_mem hI hk
  rw [← lAll_fst] at h
  obtain ⟨⟨a, b⟩, h1, h2⟩ := List.mem_map.mp h
  have h2 : a = kq := h2
  subst h2
  exact ⟨b, h1⟩
/-- the four kinds of places -/
theorem lDn_mem {zq : Nat} : ∀ jq, (kq, zq) ∈ lDn Aq jq ↔ (∃ iq, (tL Aq 1)[iq]? = some kq ∧ zq = 22 + iq) ∨ ∃ sq, sq < jq ∧ ((∃ iq, (tL Aq (4 + sq))[iq]? = some kq ∧ zq = 44 + 43 * sq + 6 + iq) ∨ ∃ cq, (cq, kq) ∈ tC Aq sq ∧ zq = 44 + 43 * sq + 23 + cq) := by
  intro jq
  induction jq with
  | zero =>
    unfold lDn
    rw [en_mem]
    exact ⟨Or.inl, fun h => h.elim id fun ⟨sq, h1, _⟩ => absurd h1 (Nat.not_lt_zero _)⟩
  | succ jq ih =>
    unfold lDn
    rw [List.mem_append, List.mem_append, en_mem, ih, List.mem_map]
    constructor
    · rintro ((h | ⟨⟨c, k⟩, h1, h2⟩) | h | ⟨sq, h1, h2⟩)
      · exact Or.inr ⟨jq, Nat.lt_succ_self _, Or.inl h⟩
      · cases h2; exact Or.inr ⟨jq, Nat.lt_succ_self _, Or.inr ⟨c, h1, rfl⟩⟩
      · exact Or.inl h
      · exact Or.inr ⟨sq, by omega, h2⟩
    · rintro (h | ⟨sq, h1, h2⟩)
      · exact Or.inr (Or.inl h)
      · by_cases hx : sq = jq
        · subst hx
          rcases h2 with h2 | ⟨cq, h2, h3⟩
          · exact Or.inl (Or.inl h2)
          · exact Or.inl (Or.inr ⟨(cq, kq), h2, by rw [h3]⟩)
        · exact Or.inr (Or.inr ⟨sq, by omega, h2⟩)
theorem lo_mem {zq : Nat} : (kq, zq) ∈ lAll Aq ↔ (∃ iq, (tL Aq 0)[iq]? = some kq ∧ zq = 33 + iq) ∨ (∃ iq, (tL Aq 1)[iq]? = some kq ∧ zq = 22 + iq) ∨ ∃ sq, sq < tN Aq 0 ∧ ((∃ iq, (tL Aq (4 + sq))[iq]? = some kq ∧ zq = 44 + 43 * sq + 6 + iq) ∨ ∃ cq, (cq, kq) ∈ tC Aq sq ∧ zq = 44 + 43 * sq + 23 + cq) := by
  unfold lAll
  rw [List.mem_append, en_mem, lDn_mem]
/-- one of the three loops over a list -/
theorem n_sl2 {ls : List Nat} (hc : fq 21 = zN ls.length) (hl : lsM 22 ls fq) (hn : ls.length ≤ 10) (hk : kq < 10) (hw : ∀ vq ∈ ls, vq < 10) : ∀ (rs l1 : List Nat), ls = l1 ++ rs → (∃ iq, ls[iq]? = some kq ∧ pwX so 145 2 [some (.ref aq), some (.int (zN kq)), some (.int (zN l1.length)), none, none] [] g (mkA aq 221 fq w) = some (.inl (some (.int (zN (22 + iq)))), g, (mkA aq 221 fq w))) ∨ (kq ∉ rs ∧ pwX so 145 2 [some (.ref aq), some (.int (zN kq)), some (.int (zN l1.length)), none, none] [] g (mkA aq 221 fq w) = pwX so 145 33 [some (.ref aq), some (.int (zN kq)), some (.int (zN 0)), none, none] [] g (mkA aq 221 fq w)) := by
  intro rs
  induction rs with
  | nil =>
    intro l1 he
    rw [List.append_nil] at he
    subst he
    refine Or.inr ⟨List.not_mem_nil, ?_⟩
    simp (disch := omega) only [s_X8_slot_2, s_X8_slot_3, s_X8_slot_4, s_X8_slot_6, s_X8_slot_7, s_X8_slot_31, s_X8_slot_32, ↓md_ld, zN_neg1, nL0, nL1, nL2, nL3, nL4, nL5, nL6, nL7, nL8, nL9, nL10, nL11, nL12, nL13, nL14, nL20, nL21, nL22, nL23, nL25, nL32, nL33, nL39, nL40, nL43, nL44, nL99, nL100, nL120, nL216, nL217, nL218, nL219, nL220, nL221, nL500, nL999, nL1000, nL10000, nL100000, sh33, zN_lt, zN_le, zN_eq, zN_ge0, zN_lt0, zN_nm, zN_mn, zN_mlt, zN_ltm, zN_lem, zN_mle, zN_m1, zN_m2, zN_addm, zN_ofNat, zN_beq, zN_add, zN_sub, zN_mul, zN_rem, qT_lt, qF_lt, qT_le, qF_le, qT_eq, qF_eq, ↓reduceIte, and_true, true_and, false_and, and_false, not_true_eq_false, not_false_eq_true, decide_true, decide_false, Bool.true_or, Bool.or_true, Bool.false_or, Bool.or_false, cond_true, cond_false, hc]
  | cons vq rs ih =>
    intro l1 he
    have hlen := congrArg List.length he
    simp only [List.length_append, List.length_cons] at hlen
    have hv := hl _ _ (l_one he)
    have hv2 := hw vq (by rw [he]; exact List.mem_append_right _ List.mem_cons_self)
    by_cases hx : vq = kq
    · subst hx
      refine Or.inl ⟨l1.length, l_one he, ?_⟩
      simp (disch := omega) only [s_X8_slot_2, s_X8_slot_3, s_X8_slot_4, s_X8_slot_6, s_X8_slot_7, s_X8_slot_10, s_X8_slot_11, s_X8_slot_13, s_X8_slot_14, s_X8_slot_15, s_X8_slot_16, s_X8_slot_17, s_X8_slot_20, s_X8_slot_22, s_X8_slot_23, s_X8_slot_24, s_X8_slot_25, s_X8_slot_28, ↓md_ld, zN_neg1, nL0, nL1, nL2, nL3, nL4, nL5, nL6, nL7, nL8, nL9, nL10, nL11, nL12, nL13, nL14, nL20, nL21, nL22, nL23, nL25, nL32, nL33, nL39, nL40, nL43, nL44, nL99, nL100, nL120, nL216, nL217, nL218, nL219, nL220, nL221, nL500, nL999, nL1000, nL10000, nL100000, sh33, zN_lt, zN_le, zN_eq, zN_ge0, zN_lt0, zN_nm, zN_mn, zN_mlt, zN_ltm, zN_lem, zN_mle, zN_m1, zN_m2, zN_addm, zN_ofNat, zN_beq, zN_add, zN_sub, zN_mul, zN_rem, qT_lt, qF_lt, qT_le, qF_le, qT_eq, qF_eq, ↓reduceIte, and_true, true_and, false_and, and_false, not_true_eq_false, not_false_eq_true, decide_true, decide_false, Bool.true_or, Bool.or_true, Bool.false_or, Bool.or_false, cond_true, cond_false, hc, hv]
    · have hx2 : vq < kq ∨ kq < vq := by omega
      have h9 := ih (l1 ++ [vq]) (by rw [List.append_assoc]; exact he)
      rw [List.length_append, List.length_singleton] at h9
      rw [s_X8_slot_2]
      simp (disch := omega) only [s_X8_slot_3, s_X8_slot_4, s_X8_slot_6, s_X8_slot_7, s_X8_slot_10, s_X8_slot_11, s_X8_slot_13, s_X8_slot_14, s_X8_slot_15, s_X8_slot_16, s_X8_slot_17, s_X8_slot_20, s_X8_slot_22, s_X8_slot_23, s_X8_slot_24, s_X8_slot_25, s_X8_slot_28, ↓md_ld, zN_neg1, nL0, nL1, nL2, nL3, nL4, nL5, nL6, nL7, nL8, nL9, nL10, nL11, nL12, nL13, nL14, nL20, nL21, nL22, nL23, nL25, nL32, nL33, nL39, nL40, nL43, nL44, nL99, nL100, nL120, nL216, nL217, nL218, nL219, nL220, nL221, nL500, nL999, nL1000, nL10000, nL100000, sh33, zN_lt, zN_le, zN_eq, zN_ge0, zN_lt0, zN_nm, zN_mn, zN_mlt, zN_ltm, zN_lem, zN_mle, zN_m1, zN_m2, zN_addm, zN_ofNat, zN_beq, zN_add, zN_sub, zN_mul, zN_rem, qT_lt, qF_lt, qT_le, qF_le, qT_eq, qF_eq, ↓reduceIte, and_true, true_and, false_and, and_false, not_true_eq_false, not_false_eq_true, decide_true, decide_false, Bool.true_or, Bool.or_true, Bool.false_or, Bool.or_false, cond_true, cond_false, hc, hv]
      rcases h9 with h9 | ⟨h9, h8⟩
      · exact Or.inl h9
      · exact Or.inr ⟨fun hh => (List.mem_cons.mp hh).elim (fun h => hx h.symm) h9, h8⟩
theorem n_sl33 {ls : List Nat} (hc : fq 32 = zN ls.length) (hl : lsM 33 ls fq) (hn : ls.length ≤ 10) (hk : kq < 10) (hw : ∀ vq ∈ ls, vq < 10) : ∀ (rs l1 : List Nat), ls = l1 ++ rs → (∃ iq, ls[iq]? = some kq ∧ pwX so 145 33 [some (.ref aq), some (.int (zN kq)), some (.int (zN l1.length)), none, none] [] g (mkA aq 221 fq w) = some (.inl (some (.int (zN (33 + iq)))), g, (mkA aq 221 fq w))) ∨ (kq ∉ rs ∧ pwX so 145 33 [some (.ref aq), some (.int (zN kq)), some (.int (zN l1.length)), none, none] [] g (mkA aq 221 fq w) = pwX so 145 64 [some (.ref aq), some (.int (zN kq)), some (.int (zN 0)), none, none] [] g (mkA aq 221 fq w)) := by
  intro rs
  induction rs with
  | nil =>
    intro l1 he
    rw [List.append_nil] at he
    subst he
    refine Or.inr ⟨List.not_mem_nil, ?_⟩
    simp (disch := omega) only [s_X8_slot_33, s_X8_slot_34, s_X8_slot_35, s_X8_slot_37, s_X8_slot_38, s_X8_slot_62, s_X8_slot_63, ↓md_ld, zN_neg1, nL0, nL1, nL2, nL3, nL4, nL5, nL6, nL7, nL8, nL9, nL10, nL11, nL12, nL13, nL14, nL20, nL21, nL22, nL23, nL25, nL32, nL33, nL39, nL40, nL43, nL44, nL99, nL100, nL120, nL216, nL217, nL218, nL219, nL220, nL221, nL500, nL999, nL1000, nL10000, nL100000, sh33, zN_lt, zN_le, zN_eq, zN_ge0, zN_lt0, zN_nm, zN_mn, zN_mlt, zN_ltm, zN_lem, zN_mle, zN_m1, zN_m2, zN_addm, zN_ofNat, zN_beq, zN_add, zN_sub, zN_mul, zN_rem, qT_lt, qF_lt, qT_le, qF_le, qT_eq, qF_eq, ↓reduceIte, and_true, true_and, false_and, and_false, not_true_eq_false, not_false_eq_true, decide_true, decide_false, Bool.true_or, Bool.or_true, Bool.false_or, Bool.or_false, cond_true, cond_false, hc]
  | cons vq rs ih =>
    intro l1 he
    have hlen := congrArg List.length he
    simp only [List.length_append, List.length_cons] at hlen
    have hv := hl _ _ (l_one he)
    have hv2 := hw vq (by rw [he]; exact List.mem_append_right _ List.mem_cons_self)
    by_cases hx : vq = kq
    · subst hx
      refine Or.inl ⟨l1.length, l_one he, ?_⟩
      simp (disch := omega) only [s_X8_slot_33, s_X8_slot_34, s_X8_slot_35, s_X8_slot_37, s_X8_slot_38, s_X8_slot_41, s_X8_slot_42, s_X8_slot_44, s_X8_slot_45, s_X8_slot_46, s_X8_slot_47, s_X8_slot_48, s_X8_slot_51, s_X8_slot_53, s_X8_slot_54, s_X8_slot_55, s_X8_slot_56, s_X8_slot_59, ↓md_ld, zN_neg1, nL0, nL1, nL2, nL3, nL4, nL5, nL6, nL7, nL8, nL9, nL10, nL11, nL12, nL13, nL14, nL20, nL21, nL22, nL23, nL25, nL32, nL33, nL39, nL40, nL43, nL44, nL99, nL100, nL120, nL216, nL217, nL218, nL219, nL220, nL221, nL500, nL999, nL1000, nL10000, nL100000, sh33, zN_lt, zN_le, zN_eq, zN_ge0, zN_lt0, zN_nm, zN_mn, zN_mlt, zN_ltm, zN_lem, zN_mle, zN_m1, zN_m2, zN_addm, zN_ofNat, zN_beq, zN_add, zN_sub, zN_mul, zN_rem, qT_lt, qF_lt, qT_le, qF_le, qT_eq, qF_eq, ↓reduceIte, and_true, true_and, false_and, and_false, not_true_eq_false, not_false_eq_true, decide_true, decide_false, Bool.true_or, Bool.or_true, Bool.false_or, Bool.or_false, cond_true, cond_false, hc, hv]
    · have hx2 : vq < kq ∨ kq < vq := by omega
      have h9 := ih (l1 ++ [vq]) (by rw [List.append_assoc]; exact he)
      rw [List.length_append, List.length_singleton] at h9
      rw [s_X8_slot_33]
      simp (disch := omega) only [s_X8_slot_34, s_X8_slot_35, s_X8_slot_37, s_X8_slot_38, s_X8_slot_41, s_X8_slot_42, s_X8_slot_44, s_X8_slot_45, s_X8_slot_46, s_X8_slot_47, s_X8_slot_48, s_X8_slot_51, s_X8_slot_53, s_X8_slot_54, s_X8_slot_55, s_X8_slot_56, s_X8_slot_59, ↓md_ld, zN_neg1, nL0, nL1, nL2, nL3, nL4, nL5, nL6, nL7, nL8, nL9, nL10, nL11, nL12, nL13, nL14, nL20, nL21, nL22, nL23, nL25, nL32, nL33, nL39, nL40, nL43, nL44, nL99, nL100, nL120, nL216, nL217, nL218, nL219, nL220, nL221, nL500, nL999, nL1000, nL10000, nL100000, sh33, zN_lt, zN_le, zN_eq, zN_ge0, zN_lt0, zN_nm, zN_mn, zN_mlt, zN_ltm, zN_lem, zN_mle, zN_m1, zN_m2, zN_addm, zN_ofNat, zN_beq, zN_add, zN_sub, zN_mul, zN_rem, qT_lt, qF_lt, qT_le, qF_le, qT_eq, qF_eq, ↓reduceIte, and_true, true_and, false_and, and_false, not_true_eq_false, not_false_eq_true, decide_true, decide_false, Bool.true_or, Bool.or_true, Bool.false_or, Bool.or_false, cond_true, cond_false, hc, hv]
      rcases h9 with h9 | ⟨h9, h8⟩
      · exact Or.inl h9
      · exact Or.inr ⟨fun hh => (List.mem_cons.mp hh).elim (fun h => hx h.symm) h9, h8⟩
theorem n_sl80 {ls : List Nat} (hs : sq < 4) (hc : fq (44 + 43 * sq + 5) = zN ls.length) (hl : lsM (44 + 43 * sq + 6) ls fq) (hn : ls.length ≤ 6) (hk : kq < 10) (hw : ∀ vq ∈ ls, vq < 10) : ∀ (rs l1 : List Nat), ls = l1 ++ rs → (∃ iq, ls[iq]? = some kq ∧ pwX so 145 80 [some (.ref aq), some (.int (zN kq)), some (.int (zN sq)), some (.int (zN (44 + 43 * sq))), some (.int (zN l1.length))] [] g (mkA aq 221 fq w) = some (.inl (some (.int (zN (44 + 43 * sq + 6 + iq)))), g, (mkA aq 221 fq w))) ∨ (kq ∉ rs ∧ pwX so 145 80 [some (.ref aq), some (.int (zN kq)), some (.int (zN sq)), some (.int (zN (44 + 43 * sq))), some (.int (zN l1.length))] [] g (mkA aq 221 fq w) = pwX so 145 120 [some (.ref aq), some (.int (zN kq)), some (.int (zN sq)), some (.int (zN (44 + 43 * sq))), some (.int (zN 0))] [] g (mkA aq 221 fq w)) := by
  intro rs
  induction rs with
  | nil =>
    intro l1 he
    rw [List.append_nil] at he
    subst he
    refine Or.inr ⟨List.not_mem_nil, ?_⟩
    simp (disch := omega) only [s_X8_slot_80, s_X8_slot_82, s_X8_slot_83, s_X8_slot_84, s_X8_slot_85, s_X8_slot_86, s_X8_slot_87, s_X8_slot_117, s_X8_slot_118, ↓md_ld, zN_neg1, nL0, nL1, nL2, nL3, nL4, nL5, nL6, nL7, nL8, nL9, nL10, nL11, nL12, nL13, nL14, nL20, nL21, nL22, nL23, nL25, nL32, nL33, nL39, nL40, nL43, nL44, nL99, nL100, nL120, nL216, nL217, nL218, nL219, nL220, nL221, nL500, nL999, nL1000, nL10000, nL100000, sh33, zN_lt, zN_le, zN_eq, zN_ge0, zN_lt0, zN_nm, zN_mn, zN_mlt, zN_ltm, zN_lem, zN_mle, zN_m1, zN_m2, zN_addm, zN_ofNat, zN_beq, zN_add, zN_sub, zN_mul, zN_rem, qT_lt, qF_lt, qT_le, qF_le, qT_eq, qF_eq, ↓reduceIte, and_true, true_and, false_and, and_false, not_true_eq_false, not_false_eq_true, decide_true, decide_false, Bool.true_or, Bool.or_true, Bool.false_or, Bool.or_false, cond_true, cond_false, hc]
  | cons vq rs ih =>
    intro l1 he
    have hlen := congrArg List.length he
    simp only [List.length_append, List.length_cons] at hlen
    have hv := hl _ _ (l_one he)
    have hv2 := hw vq (by rw [he]; exact List.mem_append_right _ List.mem_cons_self)
    by_cases hx : vq = kq
    · subst hx
      refine Or.inl ⟨l1.length, l_one he, ?_⟩
      simp (disch := omega) only [s_X8_slot_80, s_X8_slot_82, s_X8_slot_83, s_X8_slot_84, s_X8_slot_85, s_X8_slot_86, s_X8_slot_87, s_X8_slot_90, s_X8_slot_91, s_X8_slot_92, s_X8_slot_94, s_X8_slot_95, s_X8_slot_97, s_X8_slot_98, s_X8_slot_99, s_X8_slot_100, s_X8_slot_103, s_X8_slot_104, s_X8_slot_106, s_X8_slot_107, s_X8_slot_109, s_X8_slot_110, s_X8_slot_111, s_X8_slot_114, ↓md_ld, zN_neg1, nL0, nL1, nL2, nL3, nL4, nL5, nL6, nL7, nL8, nL9, nL10, nL11, nL12, nL13, nL14, nL20, nL21, nL22, nL23, nL25, nL32, nL33, nL39, nL40, nL43, nL44, nL99, nL100, nL120, nL216, nL217, nL218, nL219, nL220, nL221, nL500, nL999, nL1000, nL10000, nL100000, sh33, zN_lt, zN_le, zN_eq, zN_ge0, zN_lt0, zN_nm, zN_mn, zN_mlt, zN_ltm, zN_lem, zN_mle, zN_m1, zN_m2, zN_addm, zN_ofNat, zN_beq, zN_add, zN_sub, zN_mul, zN_rem, qT_lt, qF_lt, qT_le, qF_le, qT_eq, qF_eq, ↓reduceIte, and_true, true_and, false_and, and_false, not_true_eq_false, not_false_eq_true, decide_true, decide_false, Bool.true_or, Bool.or_true, Bool.false_or, Bool.or_false, cond_true, cond_false, hc, hv]
    · have hx2 : vq < kq ∨ kq < vq := by omega
      have h9 := ih (l1 ++ [vq]) (by rw [List.append_assoc]; exact he)
      rw [List.length_append, List.length_singleton] at h9
      rw [s_X8_slot_80]
      simp (disch := omega) only [s_X8_slot_82, s_X8_slot_83, s_X8_slot_84, s_X8_slot_85, s_X8_slot_86, s_X8_slot_87, s_X8_slot_90, s_X8_slot_91, s_X8_slot_92, s_X8_slot_94, s_X8_slot_95, s_X8_slot_97, s_X8_slot_98, s_X8_slot_99, s_X8_slot_100, s_X8_slot_103, s_X8_slot_104, s_X8_slot_106, s_X8_slot_107, s_X8_slot_109, s_X8_slot_110, s_X8_slot_111, s_X8_slot_114, ↓md_ld, zN_neg1, nL0, nL1, nL2, nL3, nL4, nL5, nL6, nL7, nL8, nL9, nL10, nL11, nL12, nL13, nL14, nL20, nL21, nL22, nL23, nL25, nL32, nL33, nL39, nL40, nL43, nL44, nL99, nL100, nL120, nL216, nL217, nL218, nL219, nL220, nL221, nL500, nL999, nL1000, nL10000, nL100000, sh33, zN_lt, zN_le, zN_eq, zN_ge0, zN_lt0, zN_nm, zN_mn, zN_mlt, zN_ltm, zN_lem, zN_mle, zN_m1, zN_m2, zN_addm, zN_ofNat, zN_beq, zN_add, zN_sub, zN_mul, zN_rem, qT_lt, qF_lt, qT_le, qF_le, qT_eq, qF_eq, ↓reduceIte, and_true, true_and, false_and, and_false, not_true_eq_false, not_false_eq_true, decide_true, decide_false, Bool.true_or, Bool.or_true, Bool.false_or, Bool.or_false, cond_true, cond_false, hc, hv]
      rcases h9 with h9 | ⟨h9, h8⟩
      · exact Or.inl h9
      · exact Or.inr ⟨fun hh => (List.mem_cons.mp hh).elim (fun h => hx h.symm) h9, h8⟩
theorem n_sl120 {es : List (Nat × Nat)} {ce : Nat} (hs : sq < 4) (hce : fq (44 + 43 * sq) = zN ce) (hc20 : ce ≤ 20) (hl : ∀ cq, cq < 20 → fq (44 + 43 * sq + 23 + cq) = oV (cO es cq)) (hk : kq < 10) (hw : ∀ eq ∈ es, eq.2 < 10) : ∀ (dq cz : Nat), cz + dq = ce → (∃ cq, (cq, kq) ∈ es ∧ pwX so 145 120 [some (.ref aq), some (.int (zN kq)), some (.int (zN sq)), some (.int (zN (44 + 43 * sq))), some (.int (zN cz))] [] g (mkA aq 221 fq w) = some (.inl (some (.int (zN (44 + 43 * sq + 23 + cq)))), g, (mkA aq 221 fq w))) ∨ ((∀ cq, cz ≤ cq → cq < ce → cO es cq ≠ some kq) ∧ ∃ p3 p4 : Option Value, pwX so 145 120 [some (.ref aq), some (.int (zN kq)), some (.int (zN sq)), some (.int (zN (44 + 43 * sq))), some (.int (zN cz))] [] g (mkA aq 221 fq w) = pwX so 145 64 [some (.ref aq), some (.int (zN kq)), some (.int (zN (sq + 1))), p3, p4] [] g (mkA aq 221 fq w)) := by
  intro dq
  induction dq with
  | zero =>
    intro cz e1
    have e1 : cz = ce := by omega
    subst e1
    refine Or.inr ⟨fun cq h1 h2 => by omega, some (.int (zN (44 + 43 * sq))), some (.int (zN cz)), ?_⟩
    simp (disch := omega) only [s_X8_slot_120, s_X8_slot_122, s_X8_slot_123, s_X8_slot_124, s_X8_slot_125, s_X8_slot_126, s_X8_slot_127, s_X8_slot_157, s_X8_slot_160, ↓md_ld, zN_neg1, nL0, nL1, nL2, nL3, nL4, nL5, nL6, nL7, nL8, nL9, nL10, nL11, nL12, nL13, nL14, nL20, nL21, nL22, nL23, nL25, nL32, nL33, nL39, nL40, nL43, nL44, nL99, nL100, nL120, nL216, nL217, nL218, nL219, nL220, nL221, nL500, nL999, nL1000, nL10000, nL100000, sh33, zN_lt, zN_le, zN_eq, zN_ge0, zN_lt0, zN_nm, zN_mn, zN_mlt, zN_ltm, zN_lem, zN_mle, zN_m1, zN_m2, zN_addm, zN_ofNat, zN_beq, zN_add, zN_sub, zN_mul, zN_rem, qT_lt, qF_lt, qT_le, qF_le, qT_eq, qF_eq, ↓reduceIte, and_true, true_and, false_and, and_false, not_true_eq_false, not_false_eq_true, decide_true, decide_false, Bool.true_or, Bool.or_true, Bool.false_or, Bool.or_false, cond_true, cond_false, hce, Nat.add_zero]
  | succ dq ih =>
    intro cz e1
    have hv := hl cz (by omega)
    have hgo : ∀ (_ : ¬ fq (44 + 43 * sq + 23 + cz) = zN kq), pwX so 145 120 [some (.ref aq), some (.int (zN kq)), some (.int (zN sq)), some (.int (zN (44 + 43 * sq))), some (.int (zN cz))] [] g (mkA aq 221 fq w) = pwX so 145 120 [some (.ref aq), some (.int (zN kq)), some (.int (zN sq)), some (.int (zN (44 + 43 * sq))), some (.int (zN (cz + 1)))] [] g (mkA aq 221 fq w) := by
      intro hne
      conv => lhs; rw [s_X8_slot_120]
      simp (disch := omega) only [s_X8_slot_122, s_X8_slot_123, s_X8_slot_124, s_X8_slot_125, s_X8_slot_126, s_X8_slot_127, s_X8_slot_130, s_X8_slot_131, s_X8_slot_132, s_X8_slot_134, s_X8_slot_135, s_X8_slot_137, s_X8_slot_138, s_X8_slot_139, s_X8_slot_140, s_X8_slot_143, s_X8_slot_144, s_X8_slot_146, s_X8_slot_147, s_X8_slot_149, s_X8_slot_150, s_X8_slot_151, s_X8_slot_154, ↓md_ld, zN_neg1, nL0, nL1, nL2, nL3, nL4, nL5, nL6, nL7, nL8, nL9, nL10, nL11, nL12, nL13, nL14, nL20, nL21, nL22, nL23, nL25, nL32, nL33, nL39, nL40, nL43, nL44, nL99, nL100, nL120, nL216, nL217, nL218, nL219, nL220, nL221, nL500, nL999, nL1000, nL10000, nL100000, sh33, zN_lt, zN_le, zN_eq, zN_ge0, zN_lt0, zN_nm, zN_mn, zN_mlt, zN_ltm, zN_lem, zN_mle, zN_m1, zN_m2, zN_addm, zN_ofNat, zN_beq, zN_add, zN_sub, zN_mul, zN_rem, qT_lt, qF_lt, qT_le, qF_le, qT_eq, qF_eq, ↓reduceIte, and_true, true_and, false_and, and_false, not_true_eq_false, not_false_eq_true, decide_true, decide_false, Bool.true_or, Bool.or_true, Bool.false_or, Bool.or_false, cond_true, cond_false, hce, Nat.add_zero, hne]
    have step : cO es cz ≠ some kq → ¬ fq (44 + 43 * sq + 23 + cz) = zN kq := by
      intro hne
      rw [hv]
      cases h9 : cO es cz with
      | none => show ¬ zM = zN kq; rw [zN_mn (by omega)]; exact id
      | some k9 =>
        have h8 : k9 < 10 := hw _ (cO_mem h9)
        show ¬ zN k9 = zN kq
        rw [zN_eq (by omega) (by omega)]
        rw [h9] at hne
        exact fun hh => hne (by rw [hh])
    by_cases hx : cO es cz = some kq
    · refine Or.inl ⟨cz, cO_mem hx, ?_⟩
      rw [hx] at hv
      have hv : fq (44 + 43 * sq + 23 + cz) = zN kq := hv
      simp (disch := omega) only [s_X8_slot_120, s_X8_slot_122, s_X8_slot_123, s_X8_slot_124, s_X8_slot_125, s_X8_slot_126, s_X8_slot_127, s_X8_slot_130, s_X8_slot_131, s_X8_slot_132, s_X8_slot_134, s_X8_slot_135, s_X8_slot_137, s_X8_slot_138, s_X8_slot_139, s_X8_slot_140, s_X8_slot_143, s_X8_slot_144, s_X8_slot_146, s_X8_slot_147, s_X8_slot_149, s_X8_slot_150, s_X8_slot_151, s_X8_slot_154, ↓md_ld, zN_neg1, nL0, nL1, nL2, nL3, nL4, nL5, nL6, nL7, nL8, nL9, nL10, nL11, nL12, nL13, nL14, nL20, nL21, nL22, nL23, nL25, nL32, nL33, nL39, nL40, nL43, nL44, nL99, nL100, nL120, nL216, nL217, nL218, nL219, nL220, nL221, nL500, nL999, nL1000, nL10000, nL100000, sh33, zN_lt, zN_le, zN_eq, zN_ge0, zN_lt0, zN_nm, zN_mn, zN_mlt, zN_ltm, zN_lem, zN_mle, zN_m1, zN_m2, zN_addm, zN_ofNat, zN_beq, zN_add, zN_sub, zN_mul, zN_rem, qT_lt, qF_lt, qT_le, qF_le, qT_eq, qF_eq, ↓reduceIte, and_true, true_and, false_and, and_false, not_true_eq_false, not_false_eq_true, decide_true, decide_false, Bool.true_or, Bool.or_true, Bool.false_or, Bool.or_false, cond_true, cond_false, hce, Nat.add_zero, hv]
    · rw [hgo (step hx)]
      rcases ih (cz + 1) (by omega) with h9 | ⟨h9, p3, p4, h8⟩
      · exact Or.inl h9
      · refine Or.inr ⟨fun cq h1 h2 => ?_, p3, p4, h8⟩
        by_cases hy : cq = cz
        · rw [hy]; exact hx
        · exact h9 cq (by omega) h2
end QA

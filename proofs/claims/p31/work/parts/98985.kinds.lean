/-! the pure part: what a walker's entry says; cells, crowds; green; the measures together -/
section QI
variable {Aq Bq : TA} {sq bz nq : Nat}
theorem wF_inj (hI : invT Aq) : inj9 (wF Aq) (tN Aq 1) := by
  refine ⟨fun iq jq hi hj h => ?_, fun iq hi => (wF_get hI hi).2⟩
  have h1 := (wF_get hI hi).1
  have h2 := (wF_get hI hj).1
  rw [h] at h1
  have hn := hI.2.1.2.1
  obtain ⟨l1, e1⟩ := List.getElem?_eq_some_iff.mp h1
  obtain ⟨l2, e2⟩ := List.getElem?_eq_some_iff.mp h2
  exact (List.getElem_inj hn).mp (e1.trans e2.symm)
theorem aWr_eq : aWr Aq = pOut (fun jq => zN (wF Aq jq)) (tN Aq 1) (tN Aq 1) := rfl
theorem fk_mend (hI : invT Aq) : aEx Aq ≤ aWr Aq := by
  have h4 := hI.1
  rw [aWr_eq]
  exact pf_mend (wF_inj hI) (by omega)
theorem fk_id (hI : invT Aq) (h : aWr Aq = 0) : ∀ iq, iq < tN Aq 1 → wF Aq iq = iq := by
  have h4 := hI.1
  exact pf_wr_id (wF_inj hI) (by omega) (by rw [← aWr_eq]; exact h)
theorem fk_wr0 (hI : invT Aq) (h : ∀ iq, iq < tN Aq 1 → wF Aq iq = iq) : aWr Aq = 0 := by
  have h4 := hI.1
  rw [aWr_eq]
  exact pf_up_wr (fun jq hj => by rw [h jq hj]; omega) (fun iq jq h1 h2 => by rw [h iq (by omega), h jq h2]; omega)
theorem fk_ex0 (hI : invT Aq) : aEx Aq = 0 ↔ aWr Aq = 0 := by
  constructor
  · intro h; exact fk_wr0 hI (pf_mend0 (wF_inj hI) h)
  · intro h; have := fk_mend hI; omega
theorem fk_lo (hI : invT Aq) : rLo (wF Aq) (tN Aq 1) = tN Aq 1 ↔ aWr Aq = 0 := by
  have h4 := hI.1
  constructor
  · intro h
    rw [aWr_eq]
    exact pf_lo_wr (fun jq hj => by have := (wF_inj hI).2 jq hj; omega) h
  · intro h; exact pf_id_lo (fk_id hI h)
theorem fk_rt : aRt Aq ≤ tN Aq 1 := qC_le _
theorem fk_rt0 (hI : invT Aq) (h : aWr Aq = 0) : aRt Aq = tN Aq 1 := by
  have h1 := fk_id hI h
  exact pf_all _ fun jq hj => by rw [h1 jq hj]; exact decide_eq_true rfl
theorem fk_wr_le (hI : invT Aq) : aWr Aq ≤ 45 := by
  have h4 := hI.1
  have h1 := pf_pairs (fq := fun jq => zN (wF Aq jq)) (nz := tN Aq 1)
  rw [← aWr_eq] at h1
  have h2 : tN Aq 1 * (tN Aq 1 - 1) ≤ 10 * 9 := Nat.mul_le_mul (by omega) (by omega)
  omega
-- entries
theorem wDn_mem {kq : Nat} : ∀ jq, (kq ∈ tL Aq 1 ∨ ∃ sq, sq < jq ∧ (kq ∈ tL Aq (4 + sq) ∨ ∃ cq, (cq, kq) ∈ tC Aq sq)) → kq ∈ wDn Aq jq := by
  intro jq
  induction jq with
  | zero =>
    rintro (h | ⟨sq, h, -⟩)
    · exact h
    · omega
  | succ jq ih =>
    intro h
    unfold wDn
    rcases h with h | ⟨sq, hs, h⟩
    · exact List.mem_append_right _ (ih (Or.inl h))
    · by_cases hx : sq = jq
      · subst hx
        refine List.mem_append_left _ ?_
        rcases h with h | ⟨cq, h⟩
        · exact List.mem_append_left _ h
        · exact List.mem_append_right _ (List.mem_map.mpr ⟨_, h, rfl⟩)
      · exact List.mem_append_right _ (ih (Or.inr ⟨sq, by omega, h⟩))
theorem in_lt (hI : invT Aq) {kq : Nat} (h : kq ∈ tL Aq 1 ∨ ∃ sq, sq < tN Aq 0 ∧ (kq ∈ tL Aq (4 + sq) ∨ ∃ cq, (cq, kq) ∈ tC Aq sq)) : kq < tN Aq 1 :=
  hI.2.1.2.2 kq (by unfold wAll; exact List.mem_append_right _ (wDn_mem _ h))
/-- who stands where: 0 start, 1 cell, 2 crowd, 3 has come -/
def kind (Aq : TA) (aq : Nat) (eq : Ent) : Prop :=
  (eq = eSt aq ∧ ¬ aq ∈ tL Aq 0) ∨ (∃ sq cq, eq = eCe sq (cq, aq) ∧ sq < tN Aq 0 ∧ (cq, aq) ∈ tC Aq sq ∧ ¬ aq ∈ tL Aq 0) ∨ (∃ sq, eq = eCr sq aq ∧ sq < tN Aq 0 ∧ ¬ aq ∈ tL Aq 0) ∨ (eq = eCome aq ∧ aq ∈ tL Aq 0)
theorem fDn_kind (hI : invT Aq) {aq : Nat} {eq : Ent} (ha : aq < tN Aq 1) (he : eq.1 = zN aq) (hc : ¬ aq ∈ tL Aq 0) : ∀ jq, jq ≤ tN Aq 0 → eq ∈ fDn Aq jq → kind Aq aq eq := by
  have h4 := hI.1
  intro jq
  induction jq with
  | zero =>
    intro _ h
    unfold fDn at h
    obtain ⟨kq, hk, rfl⟩ := List.mem_map.mp h
    have h1 := in_lt hI (Or.inl hk)
    have he : zN kq = zN aq := he
    rw [zN_eq (by omega) (by omega)] at he
    subst he
    exact Or.inl ⟨rfl, hc⟩
  | succ jq ih =>
    intro hj h
    unfold fDn fSt at h
    rcases List.mem_append.mp h with h | h
    · rcases List.mem_append.mp h with h | h
      · obtain ⟨kq, hk, rfl⟩ := List.mem_map.mp h
        have h1 := in_lt hI (Or.inr ⟨jq, by omega, Or.inl hk⟩)
        have he : zN kq = zN aq := he
        rw [zN_eq (by omega) (by omega)] at he
        subst he
        exact Or.inr (Or.inr (Or.inl ⟨jq, rfl, by omega, hc⟩))
      · obtain ⟨⟨cq, kq⟩, hk, rfl⟩ := List.mem_map.mp h
        have h1 := in_lt hI (Or.inr ⟨jq, by omega, Or.inr ⟨cq, hk⟩⟩)
        have he : zN kq = zN aq := he
        rw [zN_eq (by omega) (by omega)] at he
        subst he
        exact Or.inr (Or.inl ⟨jq, cq, rfl, by omega, hk, hc⟩)
    · exact ih (by omega) h
theorem plc_wF (hI : invT Aq) {iq : Nat} (hi : iq < tN Aq 1) : plc Aq (wF Aq iq) = iq := by
  have h1 := wF_get hI hi
  have h2 := plc_get hI h1.2
  obtain ⟨l1, e1⟩ := List.getElem?_eq_some_iff.mp h1.1
  obtain ⟨l2, e2⟩ := List.getElem?_eq_some_iff.mp h2
  exact (List.getElem_inj hI.2.1.2.1).mp (e2.trans e1.symm)
theorem ent_kind (hI : invT Aq) {aq : Nat} (ha : aq < tN Aq 1) : kind Aq aq (entK Aq aq) := by
  have h4 := hI.1
  have h1 := ent_get hI ha
  have h2 := plc_get hI ha
  have h3 : ((fAll Aq).map (fun eq => eq.1))[plc Aq aq]? = some (entK Aq aq).1 := by rw [List.getElem?_map, h1]; rfl
  rw [fAll_w, List.getElem?_map, h2] at h3
  have h3 : zN aq = (entK Aq aq).1 := Option.some.inj h3
  by_cases hc : aq ∈ tL Aq 0
  · have h5 := (plc_come hI ha).mpr hc
    unfold fAll at h1
    rw [List.getElem?_append_left (by rw [List.length_map]; exact h5), List.getElem?_map] at h1
    obtain ⟨kq, hk, h6⟩ := Option.map_eq_some_iff.mp h1
    have hl := come_lt hI (List.mem_of_getElem? hk)
    rw [← h6] at h3
    have h3 : zN aq = zN kq := h3
    rw [zN_eq (by omega) (by omega)] at h3
    subst h3
    exact Or.inr (Or.inr (Or.inr ⟨h6.symm, hc⟩))
  · have h5 : ¬ plc Aq aq < (tL Aq 0).length := fun h => hc ((plc_come hI ha).mp h)
    unfold fAll at h1
    rw [List.getElem?_append_right (by rw [List.length_map]; omega)] at h1
    exact fDn_kind hI ha h3.symm hc _ (Nat.le_refl _) (List.mem_of_getElem? h1)
theorem cO_of {cq kq : Nat} : ∀ {es : List (Nat × Nat)} {lm : Nat}, cDown lm es → (cq, kq) ∈ es → cO es cq = some kq := by
  intro es
  induction es with
  | nil => intro lm _ h; cases h
  | cons e es ih =>
    intro lm hd h
    unfold cO
    rcases List.mem_cons.mp h with h | h
    · rw [← h, if_pos rfl]
    · have h1 := cDown_lt hd.2 _ h
      have h1 : cq < e.1 := h1
      rw [if_neg (by omega)]
      exact ih hd.2 h
/-- how many of a street's cells hold a walker -/
theorem held_eq : ∀ (es : List (Nat × Nat)) (lm mq : Nat), cDown lm es → lm ≤ mq → qC (fun cq => (cO es cq).isSome) mq = es.length := by
  intro es
  induction es with
  | nil => intro lm mq _ _; exact pf_none mq fun _ _ => rfl
  | cons e es ih =>
    intro lm mq hd hm
    have hn : cO es e.1 = none := cO_none.mpr fun e9 h9 h8 => by have := cDown_lt hd.2 e9 h9; omega
    have h1 : ∀ mq, qC (fun cq => (cO (e :: es) cq).isSome) mq = qC (fun cq => (cO es cq).isSome) mq + (if e.1 < mq then 1 else 0) := by
      intro mq
      induction mq with
      | zero => rfl
      | succ mq ihm =>
        have e1 : qC (fun cq => (cO (e :: es) cq).isSome) (mq + 1) = qC (fun cq => (cO (e :: es) cq).isSome) mq + (if (cO (e :: es) mq).isSome = true then 1 else 0) := rfl
        have e2 : qC (fun cq => (cO es cq).isSome) (mq + 1) = qC (fun cq => (cO es cq).isSome) mq + (if (cO es mq).isSome = true then 1 else 0) := rfl
        rw [e1, e2, ihm]
        by_cases hx : e.1 = mq
        · subst hx
          rw [show cO (e :: es) e.1 = some e.2 by unfold cO; rw [if_pos rfl], hn, if_neg (show ¬ e.1 < e.1 by omega), if_pos (show e.1 < e.1 + 1 by omega)]
          rfl
        · rw [show cO (e :: es) mq = cO es mq by conv => lhs; unfold cO; rw [if_neg hx]]
          by_cases hy : e.1 < mq
          · rw [if_pos hy, if_pos (show e.1 < mq + 1 by omega)]; omega
          · rw [if_neg hy, if_neg (show ¬ e.1 < mq + 1 by omega)]; omega
    have hl := hd.1
    rw [h1, ih e.1 mq hd.2 (by omega), if_pos (show e.1 < mq by omega)]
    rfl
theorem held_s (hI : invT Aq) (hs : sq < tN Aq 0) : qC (fun cq => (cO (tC Aq sq) cq).isSome) (tN Aq (4 + sq)) = (tC Aq sq).length :=
  held_eq _ _ _ (hI.2.2 sq hs).2.2.1 (Nat.le_refl _)
theorem wDn_len2 : ∀ jq, (wDn Aq jq).length = (tL Aq 1).length + sm (fun sq => (tC Aq sq).length) jq + sm (fun sq => (tL Aq (4 + sq)).length) jq := by
  intro jq
  induction jq with
  | zero => rfl
  | succ jq ih =>
    have e1 : (wDn Aq (jq + 1)).length = (tL Aq (4 + jq)).length + (tC Aq jq).length + (wDn Aq jq).length := by
      show (tL Aq (4 + jq) ++ (tC Aq jq).map Prod.snd ++ wDn Aq jq).length = _
      simp only [List.length_append, List.length_map]
    rw [e1, ih, sm_s, sm_s]
    omega
theorem all_len (hI : invT Aq) : (tL Aq 0).length + (tL Aq 1).length + aCe Aq + aCr Aq = tN Aq 1 := by
  have h1 := hI.2.1.1
  unfold wAll at h1
  rw [List.length_append, wDn_len2] at h1
  unfold aCe aCr
  omega
theorem cell_len (hI : invT Aq) (hs : sq < tN Aq 0) : (tC Aq sq).length ≤ tN Aq 1 ∧ (tL Aq (4 + sq)).length ≤ tN Aq 1 ∧ (tL Aq (8 + sq)).length ≤ tN Aq 1 := by
  have h1 := len_street hI hs
  have h2 := (hI.2.2 sq hs).2.2.2
  omega
theorem green_0 (hI : invT Aq) (ho : okT bz Aq) (hb : bz < 2000000000) (hs : sq < tN Aq 0) (hr : tN Aq (12 + sq) = 0) : tGreen Aq sq := by
  obtain ⟨i1, i2, i3, i4, i5⟩ := (hI.2.2 sq hs).1
  have h1 := ho.1
  obtain ⟨t9, e1, e2, e3, e4⟩ := un_ex h1.1
  unfold tGreen
  rw [e1, hr, Nat.add_zero, zN_add, zN_rem (by omega) (by omega), zN_lt (by have := Nat.mod_lt (t9 + tN Aq (16 + sq)) (show 0 < tN Aq (8 + sq) by omega); omega) (by omega)]
  exact Nat.mod_lt _ (by omega)
end QI

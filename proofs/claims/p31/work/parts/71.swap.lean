/-! the pure part: two walkers change places -/
theorem swp_lt {kq oq vq nq : Nat} (hk : kq < nq) (ho : oq < nq) (hv : vq < nq) : swp kq oq vq < nq := by
  unfold swp; split
  · exact ho
  · split
    · exact hk
    · exact hv
theorem swp_swp {kq oq vq : Nat} : swp kq oq (swp kq oq vq) = vq := by
  unfold swp
  by_cases h1 : vq = kq
  · subst h1
    rw [if_pos rfl]
    by_cases h2 : oq = vq
    · rw [if_pos h2]; exact h2
    · rw [if_neg h2, if_pos rfl]
  · rw [if_neg h1]
    by_cases h2 : vq = oq
    · subst h2; rw [if_pos rfl, if_pos rfl]
    · rw [if_neg h2, if_neg h1, if_neg h2]
theorem swp_inj {kq oq vq uq : Nat} (h : swp kq oq vq = swp kq oq uq) : vq = uq := by
  have := congrArg (swp kq oq) h; rwa [swp_swp, swp_swp] at this
section QI
variable {Aq Bq : TA} {sq kq oq : Nat} {Rq : Nat → Nat → Int32}
theorem sw_L {jq : Nat} (h : jq < 8) : tL (tSwap Aq kq oq) jq = (tL Aq jq).map (swp kq oq) := by
  show (if jq < 8 then (tL Aq jq).map (swp kq oq) else tL Aq jq) = _
  rw [if_pos h]
theorem sw_R {jq : Nat} (h : 8 ≤ jq) : tL (tSwap Aq kq oq) jq = tL Aq jq := by
  show (if jq < 8 then (tL Aq jq).map (swp kq oq) else tL Aq jq) = _
  rw [if_neg (by omega)]
theorem sw_C {jq : Nat} : tC (tSwap Aq kq oq) jq = (tC Aq jq).map (fun eq => (eq.1, swp kq oq eq.2)) := rfl
theorem sw_cs {jq : Nat} : ((tC Aq jq).map (fun eq => (eq.1, swp kq oq eq.2))).map Prod.snd = ((tC Aq jq).map Prod.snd).map (swp kq oq) := by
  rw [List.map_map, List.map_map]; rfl
theorem sw_wDn : ∀ jq, jq ≤ 4 → wDn (tSwap Aq kq oq) jq = (wDn Aq jq).map (swp kq oq) := by
  intro jq
  induction jq with
  | zero => intro _; unfold wDn; exact sw_L (by decide)
  | succ jq ih =>
    intro h
    unfold wDn
    rw [sw_L (by omega), sw_C, sw_cs, ih (by omega), List.map_append, List.map_append]
theorem sw_wAll (h : tN Aq 0 ≤ 4) : wAll (tSwap Aq kq oq) = (wAll Aq).map (swp kq oq) := by
  unfold wAll
  rw [sw_L (by decide), List.map_append]
  congr 1
  exact sw_wDn _ h
theorem sw_wUp : ∀ nq jq, jq + nq ≤ 4 → wUp (tSwap Aq kq oq) jq nq = (wUp Aq jq nq).map (swp kq oq) := by
  intro nq
  induction nq with
  | zero => intro jq _; rfl
  | succ nq ih =>
    intro jq h
    unfold wUp wSt
    rw [ih (jq + 1) (by omega), sw_L (by omega), sw_C, sw_cs, List.map_append, List.map_append]
theorem sw_fPl (h : tN Aq 0 ≤ 4) {jq : Nat} (hj : jq ≤ tN Aq 0) : (fP (tSwap Aq kq oq) jq).length = (fP Aq jq).length := by
  rw [fP_len, fP_len]
  unfold wP
  rw [sw_L (by decide), List.length_append, List.length_append, List.length_map]
  have h1 : wUp (tSwap Aq kq oq) jq (tN (tSwap Aq kq oq) 0 - jq) = (wUp Aq jq (tN Aq 0 - jq)).map (swp kq oq) := sw_wUp _ _ (by show jq + (tN Aq 0 - jq) ≤ 4; omega)
  rw [h1, List.length_map]
theorem cDown_map {fz : Nat → Nat} {es : List (Nat × Nat)} {lm : Nat} (h : cDown lm es) : cDown lm (es.map (fun eq => (eq.1, fz eq.2))) :=
  cDown_fst (by rw [List.map_map]; rfl) h
theorem inv_Swap (h : invT Aq) (hk : kq < tN Aq 1) (ho : oq < tN Aq 1) : invT (tSwap Aq kq oq) := by
  obtain ⟨a, ⟨b1, b2, b3⟩, c⟩ := h
  refine ⟨a, ?_, fun s2 hs2 => ?_⟩
  · rw [sw_wAll a.1]
    refine ⟨by rw [List.length_map]; exact b1, ?_, fun v9 hv => ?_⟩
    · rw [List.nodup_iff_pairwise_ne] at b2 ⊢
      exact List.pairwise_map.mpr (b2.imp fun hne hh => hne (swp_inj hh))
    · obtain ⟨u9, hu, rfl⟩ := List.mem_map.mp hv
      exact swp_lt hk ho (b3 u9 hu)
  · have hs2 : s2 < tN Aq 0 := hs2
    obtain ⟨i1, i2, i3, i4⟩ := c s2 hs2
    unfold invS
    rw [sw_L (by omega), sw_R (by omega), sw_C, sw_fPl a.1 hs2, List.length_map]
    exact ⟨i1, i2, cDown_map i3, i4⟩
theorem rep_two : repAt 0 (fAll Aq) Rq ↔ (∀ iq kq, (wAll Aq)[iq]? = some kq → Rq 11 iq = zN kq) ∧ (∀ iq rz, ((fAll Aq).map (fun eq => eq.2))[iq]? = some rz → Rq 12 iq = rz.1 ∧ Rq 13 iq = rz.2.1 ∧ Rq 14 iq = rz.2.2) := by
  constructor
  · intro h
    refine ⟨fun iq kq hk => ?_, fun iq rz hr => ?_⟩
    · have h1 : ((fAll Aq).map (fun eq => eq.1))[iq]? = some (zN kq) := by rw [fAll_w, List.getElem?_map, hk]; rfl
      rw [List.getElem?_map] at h1
      obtain ⟨eq, he, h2⟩ := Option.map_eq_some_iff.mp h1
      have := (h iq eq he).1
      rw [Nat.zero_add] at this
      rw [this]; exact h2
    · rw [List.getElem?_map] at hr
      obtain ⟨eq, he, rfl⟩ := Option.map_eq_some_iff.mp hr
      have := (h iq eq he).2
      rw [Nat.zero_add] at this
      exact this
  · rintro ⟨h1, h2⟩ iq eq he
    rw [Nat.zero_add]
    have h3 : ((fAll Aq).map (fun eq => eq.1))[iq]? = some eq.1 := by rw [List.getElem?_map, he]; rfl
    rw [fAll_w, List.getElem?_map] at h3
    obtain ⟨kq, hk, h4⟩ := Option.map_eq_some_iff.mp h3
    refine ⟨by rw [h1 iq kq hk, h4], h2 iq eq.2 (by rw [List.getElem?_map, he]; rfl)⟩
theorem sw_fDn2 : ∀ jq, jq ≤ 4 → (fDn (tSwap Aq kq oq) jq).map (fun eq => eq.2) = (fDn Aq jq).map (fun eq => eq.2) := by
  intro jq
  induction jq with
  | zero =>
    intro _
    unfold fDn
    rw [sw_L (by decide), List.map_map, List.map_map, List.map_map]; rfl
  | succ jq ih =>
    intro h
    unfold fDn fSt
    rw [sw_L (by omega), sw_C]
    simp only [List.map_append, List.map_map, ih (by omega)]
    rfl
theorem sw_fAll2 (h : tN Aq 0 ≤ 4) : (fAll (tSwap Aq kq oq)).map (fun eq => eq.2) = (fAll Aq).map (fun eq => eq.2) := by
  unfold fAll
  rw [List.map_append, List.map_append, sw_L (by decide), List.map_map, List.map_map, List.map_map]
  congr 1
  exact sw_fDn2 _ h
end QI

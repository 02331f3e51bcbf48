/-! the pure part: what stays true in the parts of a tick -/
def onlyS (sq : Nat) (Aq Bq : TA) : Prop := tN Bq = tN Aq ∧ tL Bq 0 = tL Aq 0 ∧ tL Bq 1 = tL Aq 1 ∧ (∀ s2, s2 < 4 → s2 ≠ sq → tL Bq (4 + s2) = tL Aq (4 + s2) ∧ tC Bq s2 = tC Aq s2) ∧ ∀ s2, s2 < 4 → tL Bq (8 + s2) = tL Aq (8 + s2)
theorem erase_perm : ∀ (ls : List Nat) (iq : Nat) (h : iq < ls.length), (ls[iq] :: ls.eraseIdx iq).Perm ls
  | [], iq, h => absurd h (Nat.not_lt_zero _)
  | _ :: _, 0, _ => .refl _
  | aq :: ls, iq + 1, h => by
    have h1 := erase_perm ls iq (by simp only [List.length_cons] at h; omega)
    exact (List.Perm.swap _ _ _).trans (List.Perm.cons _ h1)
section QI
variable {Aq Bq : TA} {sq : Nat}
theorem lenP (hN : tN Bq 0 = tN Aq 0) (hl : (wAll Bq).length = (wAll Aq).length) (hu : ∀ jq, sq < jq → jq ≤ tN Aq 0 → (wP Bq jq).length = (wP Aq jq).length) (hd : ∀ jq, jq ≤ sq → wDn Bq jq = wDn Aq jq) : ∀ jq, jq ≤ tN Aq 0 → (fP Bq jq).length = (fP Aq jq).length := by
  intro jq hj
  rw [fP_len, fP_len]
  by_cases h : sq < jq
  · exact hu jq h hj
  · have h1 := congrArg List.length (wDn_eq (Aq := Aq) jq hj)
    have h2 := congrArg List.length (wDn_eq (Aq := Bq) jq (by omega))
    rw [List.length_append] at h1 h2
    rw [hd jq (by omega)] at h2
    omega
theorem only_P (ho : onlyS sq Aq Bq) (h4 : tN Aq 0 ≤ 4) {jq : Nat} (hj : sq < jq) : wP Bq jq = wP Aq jq := by
  obtain ⟨o1, o2, o3, o4, o5⟩ := ho
  exact wP_eq (by rw [o1]) o2 (fun s2 a b => o4 s2 (by rw [o1] at b; omega) (by omega))
theorem only_fP (ho : onlyS sq Aq Bq) (h4 : tN Aq 0 ≤ 4) {jq : Nat} (hj : sq < jq) : fP Bq jq = fP Aq jq := by
  obtain ⟨o1, o2, o3, o4, o5⟩ := ho
  exact fP_eq (by rw [o1]) o2 (fun s2 a b => o4 s2 (by rw [o1] at b; omega) (by omega))
theorem only_D (ho : onlyS sq Aq Bq) (h4 : sq < 4) {jq : Nat} (hj : jq ≤ sq) : wDn Bq jq = wDn Aq jq := by
  obtain ⟨o1, o2, o3, o4, o5⟩ := ho
  exact wDn_c jq o3 (fun s2 a => o4 s2 (by omega) (by omega))
theorem only_fD (ho : onlyS sq Aq Bq) (h4 : sq < 4) {jq : Nat} (hj : jq ≤ sq) : fDn Bq jq = fDn Aq jq := by
  obtain ⟨o1, o2, o3, o4, o5⟩ := ho
  exact fDn_c jq o3 (fun s2 a => o4 s2 (by omega) (by omega))
theorem inv_only (h : invT Aq) (hs : sq < tN Aq 0) (ho : onlyS sq Aq Bq) (hp : (wSt Bq sq).Perm (wSt Aq sq)) (h1 : (tL Bq (4 + sq)).length ≤ tN Aq (20 + sq)) (h2 : cDown (tN Aq (4 + sq)) (tC Bq sq)) : invT Bq := by
  have ho2 := ho
  obtain ⟨o1, o2, o3, o4, o5⟩ := ho2
  have h4 : tN Aq 0 ≤ 4 := h.1.1
  have hw : (wAll Bq).Perm (wAll Aq) := by
    rw [wDn_eq (Aq := Bq) (sq + 1) (by rw [o1]; omega), wDn_eq (Aq := Aq) (sq + 1) hs, only_P ho h4 (Nat.lt_succ_self _)]
    refine List.Perm.append_left _ ?_
    show (wSt Bq sq ++ wDn Bq sq).Perm (wSt Aq sq ++ wDn Aq sq)
    rw [only_D ho (by omega) (Nat.le_refl _)]
    exact List.Perm.append_right _ hp
  have hl := lenP (Aq := Aq) (Bq := Bq) (sq := sq) (by rw [o1]) hw.length_eq (fun jq a _ => by rw [only_P ho h4 a]) (fun jq a => only_D ho (by omega) a)
  refine ⟨by rw [o1]; exact h.1, inv_perm hw (by rw [o1]) h.2.1, fun s2 hs2 => ?_⟩
  rw [o1] at hs2
  obtain ⟨i1, i2, i3, i4⟩ := h.2.2 s2 hs2
  refine ⟨by rw [o1]; exact i1, ?_, ?_, ?_⟩
  · by_cases hx : s2 = sq
    · subst hx; rw [o1]; exact h1
    · rw [(o4 s2 (by omega) hx).1, o1]; exact i2
  · by_cases hx : s2 = sq
    · subst hx; rw [o1]; exact h2
    · rw [(o4 s2 (by omega) hx).2, o1]; exact i3
  · rw [o5 s2 (by omega), i4, hl (s2 + 1) hs2]
theorem only_C {es : List (Nat × Nat)} : onlyS sq Aq (tSetC Aq sq es) :=
  ⟨rfl, rfl, rfl, fun s2 _ hx => ⟨rfl, va_up_ne _ _ hx⟩, fun _ _ => rfl⟩
theorem only_Jn {e1 : Nat × Nat} {es : List (Nat × Nat)} (h4 : sq < 4) : onlyS sq Aq (tJn Aq sq e1 es) :=
  ⟨rfl, va_up_ne _ _ (by omega), va_up_ne _ _ (by omega), fun s2 _ hx => ⟨va_up_ne _ _ (by omega), va_up_ne _ _ hx⟩, fun s2 _ => va_up_ne _ _ (by omega)⟩
theorem inv_Mv (h : invT Aq) (hs : sq < tN Aq 0) : invT (tMv Aq sq) := by
  obtain ⟨i1, i2, i3, i4⟩ := h.2.2 sq hs
  refine inv_only h hs only_C ?_ i2 ?_
  · unfold wSt tMv tSetC
    simp only [tL, tC, tN, va_up_self, mvC_snd]
    exact .refl _
  · unfold tMv tSetC
    simp only [tL, tC, tN, va_up_self]
    exact mvC_down i3
theorem inv_Mx (h : invT Aq) (hs : sq < tN Aq 0) : invT (tMx Aq sq) := by
  obtain ⟨i1, i2, i3, i4⟩ := h.2.2 sq hs
  unfold tMx
  split
  · refine inv_only h hs only_C ?_ i2 ?_
    · unfold wSt tSetC
      simp only [tL, tC, tN, va_up_self]
      exact List.Perm.append_left _ mxC_snd
    · unfold tSetC
      simp only [tL, tC, tN, va_up_self]
      exact cDown_fst mxC_fst.symm i3
  · exact h
theorem inv_Join (h : invT Aq) (hs : sq < tN Aq 0) : invT (tJoin Aq sq) := by
  obtain ⟨i1, i2, i3, i4⟩ := h.2.2 sq hs
  have h4 : tN Aq 0 ≤ 4 := h.1.1
  unfold tJoin
  split
  · exact h
  · next e1 es hc =>
    split
    · next hx =>
      refine inv_only h hs (only_Jn (by omega)) ?_ ?_ ?_
      · unfold wSt tJn
        simp only [tL, tC, tN, va_up_self]
        rw [show Aq.2.1 sq = e1 :: es from hc]
        simp only [List.append_assoc, List.map_cons, List.singleton_append]
        exact .refl _
      · unfold tJn
        simp only [tL, tC, tN, va_up_self, List.length_append, List.length_singleton]
        exact hx.2
      · unfold tJn
        simp only [tL, tC, tN, va_up_self]
        rw [hc] at i3
        exact cDown_le i3.2 (Nat.le_of_lt i3.1)
    · exact h
/-- the entry of the one who left -/
def eLv (Aq : TA) (sq : Nat) : Ent := if sq + 1 = tN Aq 0 then eCome (tWho Aq sq) else eCe (sq + 1) (0, tWho Aq sq)
theorem tLv_N : tN (tLv Aq sq) = tN Aq := by unfold tLv; split <;> rfl
theorem tLv_cr (h4 : sq < 4) : tL (tLv Aq sq) (4 + sq) = (tL Aq (4 + sq)).eraseIdx (tI Aq sq) := by
  unfold tLv; split
  · show va_up _ 0 _ (4 + sq) = _
    rw [va_up_ne _ _ (by omega), va_up_ne _ _ (by omega), va_up_self]
  · show va_up _ (8 + sq) _ (4 + sq) = _
    rw [va_up_ne _ _ (by omega), va_up_self]
theorem tLv_rd : tL (tLv Aq sq) (8 + sq) = tL Aq (8 + sq) ++ [tWho Aq sq] := by
  unfold tLv; split
  · show va_up _ 0 _ (8 + sq) = _
    rw [va_up_ne _ _ (by omega), va_up_self]
  · show va_up _ (8 + sq) _ (8 + sq) = _
    rw [va_up_self]
theorem tLv_L {jq : Nat} (h1 : jq ≠ 4 + sq) (h2 : jq ≠ 8 + sq) (h3 : jq ≠ 0) : tL (tLv Aq sq) jq = tL Aq jq := by
  unfold tLv; split
  · show va_up _ 0 _ jq = _
    rw [va_up_ne _ _ h3, va_up_ne _ _ h2, va_up_ne _ _ h1]
  · show va_up _ (8 + sq) _ jq = _
    rw [va_up_ne _ _ h2, va_up_ne _ _ h1]
theorem tLv_C {jq : Nat} (h1 : jq ≠ sq + 1) : tC (tLv Aq sq) jq = tC Aq jq := by
  unfold tLv; split
  · rfl
  · show va_up _ (sq + 1) _ jq = _
    rw [va_up_ne _ _ h1]
theorem tLv_0 (h : sq + 1 = tN Aq 0) : tL (tLv Aq sq) 0 = tL Aq 0 ++ [tWho Aq sq] := by
  unfold tLv; rw [if_pos h]
  rfl
theorem tLv_0n (h4 : sq < 4) (h : ¬ sq + 1 = tN Aq 0) : tL (tLv Aq sq) 0 = tL Aq 0 := by
  unfold tLv; rw [if_neg h]
  show va_up _ (8 + sq) _ 0 = _
  rw [va_up_ne _ _ (by omega), va_up_ne _ _ (by omega)]
theorem tLv_C1 (h : ¬ sq + 1 = tN Aq 0) : tC (tLv Aq sq) (sq + 1) = tC Aq (sq + 1) ++ [(0, tWho Aq sq)] := by
  unfold tLv; rw [if_neg h]
  show va_up _ (sq + 1) _ (sq + 1) = _
  rw [va_up_self]
theorem tLv_C1y (h : sq + 1 = tN Aq 0) : tC (tLv Aq sq) = tC Aq := by
  unfold tLv; rw [if_pos h]
theorem tLv_fP (h4 : tN Aq 0 ≤ 4) (hs : sq < tN Aq 0) : fP (tLv Aq sq) (sq + 1) = fP Aq (sq + 1) ++ [eLv Aq sq] := by
  unfold eLv
  by_cases h : sq + 1 = tN Aq 0
  · rw [if_pos h, h, show tN Aq 0 = tN (tLv Aq sq) 0 by rw [tLv_N], fP_S, tLv_N, fP_S, tLv_0 h, List.map_append]; rfl
  · rw [if_neg h, fP_s (Aq := tLv Aq sq) (by rw [tLv_N]; omega), fP_s (Aq := Aq) (sq := sq + 1) (by omega), List.append_assoc]
    have h1 : fP (tLv Aq sq) (sq + 1 + 1) = fP Aq (sq + 1 + 1) := fP_eq (by rw [tLv_N]) (tLv_0n (by omega) h) (fun s2 a b => ⟨tLv_L (by omega) (by rw [tLv_N] at b; omega) (by omega), tLv_C (by omega)⟩)
    rw [h1]
    congr 1
    unfold fSt
    rw [tLv_L (by omega) (by omega) (by omega), tLv_C1 h, List.map_append, List.append_assoc]
    rfl
theorem tLv_wP (h4 : tN Aq 0 ≤ 4) (hs : sq < tN Aq 0) : wP (tLv Aq sq) (sq + 1) = wP Aq (sq + 1) ++ [tWho Aq sq] := by
  by_cases h : sq + 1 = tN Aq 0
  · rw [h, show tN Aq 0 = tN (tLv Aq sq) 0 by rw [tLv_N], wP_S, tLv_N, wP_S, tLv_0 h]
  · rw [wP_s (Aq := tLv Aq sq) (by rw [tLv_N]; omega), wP_s (Aq := Aq) (sq := sq + 1) (by omega), List.append_assoc]
    have h1 : wP (tLv Aq sq) (sq + 1 + 1) = wP Aq (sq + 1 + 1) := wP_eq (by rw [tLv_N]) (tLv_0n (by omega) h) (fun s2 a b => ⟨tLv_L (by omega) (by rw [tLv_N] at b; omega) (by omega), tLv_C (by omega)⟩)
    rw [h1]
    congr 1
    unfold wSt
    rw [tLv_L (by omega) (by omega) (by omega), tLv_C1 h, List.map_append, List.append_assoc]
    rfl
theorem tLv_fD (h4 : sq < 4) {jq : Nat} (hj : jq ≤ sq) : fDn (tLv Aq sq) jq = fDn Aq jq :=
  fDn_c jq (tLv_L (by omega) (by omega) (by omega)) (fun s2 a => ⟨tLv_L (by omega) (by omega) (by omega), tLv_C (by omega)⟩)
theorem tLv_D (h4 : sq < 4) {jq : Nat} (hj : jq ≤ sq) : wDn (tLv Aq sq) jq = wDn Aq jq :=
  wDn_c jq (tLv_L (by omega) (by omega) (by omega)) (fun s2 a => ⟨tLv_L (by omega) (by omega) (by omega), tLv_C (by omega)⟩)
theorem tWho_get (hn : tL Aq (4 + sq) ≠ []) : ∃ h : tI Aq sq < (tL Aq (4 + sq)).length, (tL Aq (4 + sq))[tI Aq sq] = tWho Aq sq := by
  refine ⟨tI_lt hn, ?_⟩
  unfold tWho
  rw [List.getD_eq_getElem?_getD, List.getElem?_eq_getElem (tI_lt hn)]; rfl
theorem inv_Lv (h : invT Aq) (hs : sq < tN Aq 0) (hg : goL Aq sq) : invT (tLv Aq sq) := by
  have h4 : tN Aq 0 ≤ 4 := h.1.1
  obtain ⟨g1, -, g3⟩ := hg
  obtain ⟨hi, hk⟩ := tWho_get g1
  have hw : (wAll (tLv Aq sq)).Perm (wAll Aq) := by
    rw [wDn_eq (Aq := tLv Aq sq) (sq + 1) (by rw [tLv_N]; omega), wDn_eq (Aq := Aq) (sq + 1) hs, tLv_wP h4 hs, List.append_assoc]
    refine List.Perm.append_left _ ?_
    show ([tWho Aq sq] ++ (tL (tLv Aq sq) (4 + sq) ++ (tC (tLv Aq sq) sq).map Prod.snd ++ wDn (tLv Aq sq) sq)).Perm (tL Aq (4 + sq) ++ (tC Aq sq).map Prod.snd ++ wDn Aq sq)
    rw [tLv_cr (by omega), tLv_C (by omega), tLv_D (by omega) (Nat.le_refl _), ← List.append_assoc, ← List.append_assoc]
    refine List.Perm.append_right _ (List.Perm.append_right _ ?_)
    show (tWho Aq sq :: (tL Aq (4 + sq)).eraseIdx (tI Aq sq)).Perm _
    rw [← hk]
    exact erase_perm _ _ hi
  refine ⟨by rw [tLv_N]; exact h.1, inv_perm hw (by rw [tLv_N]) h.2.1, fun s2 hs2 => ?_⟩
  rw [tLv_N] at hs2
  obtain ⟨i1, i2, i3, i4⟩ := h.2.2 s2 hs2
  refine ⟨by rw [tLv_N]; exact i1, ?_, ?_, ?_⟩
  · rw [tLv_N]
    by_cases hx : s2 = sq
    · subst hx
      rw [tLv_cr (by omega), List.length_eraseIdx_of_lt hi]
      omega
    · rw [tLv_L (by omega) (by omega) (by omega)]; exact i2
  · rw [tLv_N]
    by_cases hx : s2 = sq + 1
    · subst hx
      have hy : ¬ sq + 1 = tN Aq 0 := by omega
      rw [tLv_C1 hy]
      exact cDown_snoc i3 (by omega) (g3.resolve_left hy)
    · rw [tLv_C hx]; exact i3
  · by_cases hx : s2 = sq
    · subst hx
      rw [tLv_rd, tLv_fP h4 hs, List.length_append, List.length_append, i4]; rfl
    · rw [tLv_L (by omega) (by omega) (by omega), i4]
      by_cases hy : sq < s2
      · rw [fP_eq (Aq := tLv Aq sq) (Bq := Aq) (by rw [tLv_N]) (tLv_0n (by omega) (by omega)) (fun s3 a b => ⟨tLv_L (by omega) (by rw [tLv_N] at b; omega) (by omega), tLv_C (by omega)⟩)]
      · have h5 := congrArg List.length (wDn_eq (Aq := Aq) (s2 + 1) hs2)
        have h6 := congrArg List.length (wDn_eq (Aq := tLv Aq sq) (s2 + 1) (by rw [tLv_N]; exact hs2))
        have h7 := hw.length_eq
        rw [tLv_D (by omega) (by omega)] at h6
        rw [List.length_append] at h5 h6
        rw [fP_len, fP_len]
        omega
theorem inv_Leave (h : invT Aq) (hs : sq < tN Aq 0) : invT (tLeave Aq sq) := by
  unfold tLeave; split
  · exact inv_Lv h hs (by assumption)
  · exact h
theorem tLeave_N : tN (tLeave Aq sq) = tN Aq := by unfold tLeave; split; exact tLv_N; rfl
theorem tJoin_N : tN (tJoin Aq sq) = tN Aq := by unfold tJoin; split; rfl; split <;> rfl
theorem tMv_N : tN (tMv Aq sq) = tN Aq := rfl
theorem tMx_N : tN (tMx Aq sq) = tN Aq := by unfold tMx; split <;> rfl
theorem tStreet_N : tN (tStreet Aq sq) = tN Aq := by unfold tStreet; rw [tMx_N, tMv_N, tJoin_N, tLeave_N]
theorem inv_Street (h : invT Aq) (hs : sq < tN Aq 0) : invT (tStreet Aq sq) := by
  unfold tStreet
  exact inv_Mx (inv_Mv (inv_Join (inv_Leave h hs) (by rw [tLeave_N]; exact hs)) (by rw [tJoin_N, tLeave_N]; exact hs)) (by rw [tMv_N, tJoin_N, tLeave_N]; exact hs)
end QI

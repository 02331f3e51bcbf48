/-! the pure part: actions of the state between, and what stays true -/
def tWalker (Aq : TA) (lq : Int32) : TA := (va_up (tL Aq) 1 (tL Aq 1 ++ [tN Aq 1]), tC Aq, va_up (tN Aq) 1 (tN Aq 1 + 1), upd (tE Aq) (tN Aq 1) lq, upd (tK Aq) (tN Aq 1) zM, tT Aq, tX Aq)
def nLaid (nq : Nat → Nat) (sq c1 c2 c3 c4 c5 : Nat) : Nat → Nat := va_up (va_up (va_up (va_up (va_up nq (4 + sq) c1) (8 + sq) c2) (12 + sq) c3) (16 + sq) c4) (20 + sq) c5
def tAdd (Aq : TA) (c1 c2 c3 c5 : Nat) : TA := (va_up (va_up (tL Aq) (4 + tN Aq 0) []) (8 + tN Aq 0) [], va_up (tC Aq) (tN Aq 0) [], va_up (nLaid (tN Aq) (tN Aq 0) c1 c2 c3 0 c5) 0 (tN Aq 0 + 1), tE Aq, tK Aq, tT Aq, tX Aq)
def tNum (Aq : TA) (jq vq : Nat) : TA := (tL Aq, tC Aq, va_up (tN Aq) jq vq, tE Aq, tK Aq, tT Aq, tX Aq)
def tLetter (Aq : TA) (kq : Nat) (lq : Int32) : TA := (tL Aq, tC Aq, tN Aq, upd (tE Aq) kq lq, tK Aq, tT Aq, tX Aq)
def swp (kq oq vq : Nat) : Nat := if vq = kq then oq else if vq = oq then kq else vq
def tSwap (Aq : TA) (kq oq : Nat) : TA := (fun jq => if jq < 8 then (tL Aq jq).map (swp kq oq) else tL Aq jq, fun sq => (tC Aq sq).map (fun eq => (eq.1, swp kq oq eq.2)), tN Aq, tE Aq, tK Aq, tT Aq, tX Aq)
def tBack (Aq : TA) : TA := (va_up (fun _ => []) 1 (List.range (tN Aq 1)), fun _ => [], tN Aq, tE Aq, fun _ => zM, tT Aq, tX Aq)
def tNew : TA := (fun _ => [], fun _ => [], fun _ => 0, fun _ => 0, fun _ => 0, zN 0, 1)
section QI
variable {Aq Bq : TA} {sq : Nat}
theorem fUp_nil : ∀ nq jq, (∀ s2, jq ≤ s2 → tL Aq (4 + s2) = [] ∧ tC Aq s2 = []) → fUp Aq jq nq = [] := by
  intro nq
  induction nq with
  | zero => intro jq _; rfl
  | succ nq ih =>
    intro jq h
    unfold fUp fSt
    obtain ⟨h1, h2⟩ := h jq (Nat.le_refl _)
    rw [ih (jq + 1) (fun s2 a => h s2 (by omega)), h1, h2]; rfl
theorem fDn_snoc {kq : Nat} (h1 : tL Bq 1 = tL Aq 1 ++ [kq]) : ∀ jq, (∀ s2, s2 < jq → tL Bq (4 + s2) = tL Aq (4 + s2) ∧ tC Bq s2 = tC Aq s2) → fDn Bq jq = fDn Aq jq ++ [eSt kq] := by
  intro jq
  induction jq with
  | zero => intro _; unfold fDn; rw [h1, List.map_append]; rfl
  | succ jq ih =>
    intro h
    unfold fDn fSt
    obtain ⟨h2, h3⟩ := h jq (Nat.lt_succ_self _)
    rw [ih (fun s2 a => h s2 (by omega)), h2, h3, List.append_assoc]
    simp only [List.append_assoc]
theorem wDn_snoc {kq : Nat} (h1 : tL Bq 1 = tL Aq 1 ++ [kq]) : ∀ jq, (∀ s2, s2 < jq → tL Bq (4 + s2) = tL Aq (4 + s2) ∧ tC Bq s2 = tC Aq s2) → wDn Bq jq = wDn Aq jq ++ [kq] := by
  intro jq
  induction jq with
  | zero => intro _; unfold wDn; rw [h1]
  | succ jq ih =>
    intro h
    unfold wDn
    obtain ⟨h2, h3⟩ := h jq (Nat.lt_succ_self _)
    rw [ih (fun s2 a => h s2 (by omega)), h2, h3]
    simp only [List.append_assoc]
theorem wk_fAll {lq : Int32} : fAll (tWalker Aq lq) = fAll Aq ++ [eSt (tN Aq 1)] := by
  unfold fAll
  have h0 : tL (tWalker Aq lq) 0 = tL Aq 0 := rfl
  have h1 : tL (tWalker Aq lq) 1 = tL Aq 1 ++ [tN Aq 1] := by show va_up (tL Aq) 1 _ 1 = _; exact va_up_self _ _ _
  have h2 : tN (tWalker Aq lq) 0 = tN Aq 0 := rfl
  rw [h0, h2, fDn_snoc h1 _ (fun s2 _ => ⟨by show va_up (tL Aq) 1 _ (4 + s2) = _; exact va_up_ne _ _ (by omega), rfl⟩), List.append_assoc]
theorem wk_wAll {lq : Int32} : wAll (tWalker Aq lq) = wAll Aq ++ [tN Aq 1] := by
  unfold wAll
  have h0 : tL (tWalker Aq lq) 0 = tL Aq 0 := rfl
  have h1 : tL (tWalker Aq lq) 1 = tL Aq 1 ++ [tN Aq 1] := by show va_up (tL Aq) 1 _ 1 = _; exact va_up_self _ _ _
  have h2 : tN (tWalker Aq lq) 0 = tN Aq 0 := rfl
  rw [h0, h2, wDn_snoc h1 _ (fun s2 _ => ⟨by show va_up (tL Aq) 1 _ (4 + s2) = _; exact va_up_ne _ _ (by omega), rfl⟩), List.append_assoc]
theorem inv_Walker {lq : Int32} (h : invT Aq) (h10 : tN Aq 1 < 10) : invT (tWalker Aq lq) := by
  obtain ⟨⟨a1, a2, a3, a4⟩, ⟨b1, b2, b3⟩, c⟩ := h
  have h0 : tL (tWalker Aq lq) 0 = tL Aq 0 := rfl
  have hL : ∀ jq, 4 ≤ jq → tL (tWalker Aq lq) jq = tL Aq jq := fun jq hj => by show va_up (tL Aq) 1 _ jq = _; exact va_up_ne _ _ (by omega)
  have hN : ∀ jq, jq ≠ 1 → tN (tWalker Aq lq) jq = tN Aq jq := fun jq hj => by show va_up (tN Aq) 1 _ jq = _; exact va_up_ne _ _ hj
  have hN1 : tN (tWalker Aq lq) 1 = tN Aq 1 + 1 := by show va_up (tN Aq) 1 _ 1 = _; exact va_up_self _ _ _
  refine ⟨⟨by rw [hN 0 (by decide)]; exact a1, by rw [hN1]; omega, by rw [hN 2 (by decide)]; exact a3, by rw [hN 3 (by decide)]; exact a4⟩, ⟨?_, ?_, ?_⟩, fun s2 hs2 => ?_⟩
  · rw [wk_wAll, List.length_append, b1, hN1]; rfl
  · rw [wk_wAll, List.nodup_append]
    refine ⟨b2, List.nodup_cons.mpr ⟨List.not_mem_nil, List.nodup_nil⟩, fun x9 hx y9 hy => ?_⟩
    cases List.mem_singleton.mp hy
    have := b3 x9 hx; omega
  · intro kq hk
    rw [wk_wAll] at hk
    rw [hN1]
    rcases List.mem_append.mp hk with hk | hk
    · have := b3 kq hk; omega
    · cases List.mem_singleton.mp hk; omega
  · rw [hN 0 (by decide)] at hs2
    obtain ⟨i1, i2, i3, i4⟩ := c s2 hs2
    have hP : fP (tWalker Aq lq) (s2 + 1) = fP Aq (s2 + 1) := fP_eq (hN 0 (by decide)) h0 (fun s3 _ _ => ⟨hL _ (by omega), rfl⟩)
    unfold invS
    rw [hN _ (by omega), hN _ (by omega), hN _ (by omega), hN _ (by omega), hN _ (by omega), hL _ (by omega), hL _ (by omega), hP]
    exact ⟨i1, i2, i3, i4⟩
theorem ad_L {c1 c2 c3 c5 jq : Nat} (h1 : jq ≠ 4 + tN Aq 0) (h2 : jq ≠ 8 + tN Aq 0) : tL (tAdd Aq c1 c2 c3 c5) jq = tL Aq jq := by
  show va_up (va_up (tL Aq) (4 + tN Aq 0) []) (8 + tN Aq 0) [] jq = _
  rw [va_up_ne _ _ h2, va_up_ne _ _ h1]
theorem ad_L4 {c1 c2 c3 c5 : Nat} : tL (tAdd Aq c1 c2 c3 c5) (4 + tN Aq 0) = [] := by
  show va_up (va_up (tL Aq) (4 + tN Aq 0) []) (8 + tN Aq 0) [] (4 + tN Aq 0) = _
  rw [va_up_ne _ _ (by omega), va_up_self]
theorem ad_L8 {c1 c2 c3 c5 : Nat} : tL (tAdd Aq c1 c2 c3 c5) (8 + tN Aq 0) = [] := by
  show va_up (va_up (tL Aq) (4 + tN Aq 0) []) (8 + tN Aq 0) [] (8 + tN Aq 0) = _
  rw [va_up_self]
theorem ad_C {c1 c2 c3 c5 jq : Nat} (h1 : jq ≠ tN Aq 0) : tC (tAdd Aq c1 c2 c3 c5) jq = tC Aq jq := by
  show va_up (tC Aq) (tN Aq 0) [] jq = _
  rw [va_up_ne _ _ h1]
theorem ad_Cs {c1 c2 c3 c5 : Nat} : tC (tAdd Aq c1 c2 c3 c5) (tN Aq 0) = [] := by
  show va_up (tC Aq) (tN Aq 0) [] (tN Aq 0) = _
  rw [va_up_self]
theorem ad_N0 {c1 c2 c3 c5 : Nat} : tN (tAdd Aq c1 c2 c3 c5) 0 = tN Aq 0 + 1 := by
  rfl
theorem ad_N {c1 c2 c3 c5 jq : Nat} (h0 : jq ≠ 0) (h1 : jq ≠ 4 + tN Aq 0) (h2 : jq ≠ 8 + tN Aq 0) (h3 : jq ≠ 12 + tN Aq 0) (h4 : jq ≠ 16 + tN Aq 0) (h5 : jq ≠ 20 + tN Aq 0) : tN (tAdd Aq c1 c2 c3 c5) jq = tN Aq jq := by
  show va_up (nLaid (tN Aq) (tN Aq 0) c1 c2 c3 0 c5) 0 (tN Aq 0 + 1) jq = _
  unfold nLaid
  simp (disch := omega) only [qV_n]
theorem ad_Nl {c1 c2 c3 c5 : Nat} (h4 : tN Aq 0 < 4) : tN (tAdd Aq c1 c2 c3 c5) (4 + tN Aq 0) = c1 ∧ tN (tAdd Aq c1 c2 c3 c5) (8 + tN Aq 0) = c2 ∧ tN (tAdd Aq c1 c2 c3 c5) (12 + tN Aq 0) = c3 ∧ tN (tAdd Aq c1 c2 c3 c5) (16 + tN Aq 0) = 0 ∧ tN (tAdd Aq c1 c2 c3 c5) (20 + tN Aq 0) = c5 := by
  show va_up (nLaid (tN Aq) (tN Aq 0) c1 c2 c3 0 c5) 0 (tN Aq 0 + 1) _ = _ ∧ va_up (nLaid (tN Aq) (tN Aq 0) c1 c2 c3 0 c5) 0 (tN Aq 0 + 1) _ = _ ∧ va_up (nLaid (tN Aq) (tN Aq 0) c1 c2 c3 0 c5) 0 (tN Aq 0 + 1) _ = _ ∧ va_up (nLaid (tN Aq) (tN Aq 0) c1 c2 c3 0 c5) 0 (tN Aq 0 + 1) _ = _ ∧ va_up (nLaid (tN Aq) (tN Aq 0) c1 c2 c3 0 c5) 0 (tN Aq 0 + 1) _ = _
  unfold nLaid
  refine ⟨?_, ?_, ?_, ?_, ?_⟩ <;> simp (disch := omega) only [qV_n, qV_s]
theorem ad_fAll {c1 c2 c3 c5 : Nat} (h4 : tN Aq 0 < 4) : fAll (tAdd Aq c1 c2 c3 c5) = fAll Aq := by
  unfold fAll
  rw [ad_N0, ad_L (by omega) (by omega)]
  show _ ++ (fSt (tAdd Aq c1 c2 c3 c5) (tN Aq 0) ++ fDn (tAdd Aq c1 c2 c3 c5) (tN Aq 0)) = _
  have h1 : fSt (tAdd Aq c1 c2 c3 c5) (tN Aq 0) = [] := by unfold fSt; rw [ad_L4, ad_Cs]; rfl
  rw [h1, fDn_c (Aq := tAdd Aq c1 c2 c3 c5) (Bq := Aq) (tN Aq 0) (ad_L (by omega) (by omega)) (fun s2 a => ⟨ad_L (by omega) (by omega), ad_C (by omega)⟩)]
  rfl
theorem ad_wAll {c1 c2 c3 c5 : Nat} (h4 : tN Aq 0 < 4) : wAll (tAdd Aq c1 c2 c3 c5) = wAll Aq := by
  unfold wAll
  rw [ad_N0, ad_L (by omega) (by omega)]
  show _ ++ (tL (tAdd Aq c1 c2 c3 c5) (4 + tN Aq 0) ++ (tC (tAdd Aq c1 c2 c3 c5) (tN Aq 0)).map Prod.snd ++ wDn (tAdd Aq c1 c2 c3 c5) (tN Aq 0)) = _
  rw [ad_L4, ad_Cs, wDn_c (Aq := tAdd Aq c1 c2 c3 c5) (Bq := Aq) (tN Aq 0) (ad_L (by omega) (by omega)) (fun s2 a => ⟨ad_L (by omega) (by omega), ad_C (by omega)⟩)]
  rfl
theorem inv_Add {c1 c2 c3 c5 : Nat} (h : invT Aq) (h4 : tN Aq 0 < 4) (h0 : tL Aq 0 = []) (hc1 : 2 ≤ c1 ∧ c1 ≤ 20) (hc2 : 1 ≤ c2 ∧ c2 ≤ 20) (hc3 : c3 ≤ 20) (hc5 : 1 ≤ c5 ∧ c5 ≤ 6) : invT (tAdd Aq c1 c2 c3 c5) := by
  obtain ⟨⟨a1, a2, a3, a4⟩, ⟨b1, b2, b3⟩, c⟩ := h
  have hN1 : tN (tAdd Aq c1 c2 c3 c5) 1 = tN Aq 1 := ad_N (by omega) (by omega) (by omega) (by omega) (by omega) (by omega)
  refine ⟨⟨by rw [ad_N0]; omega, by rw [hN1]; exact a2, by rw [ad_N (by omega) (by omega) (by omega) (by omega) (by omega) (by omega)]; exact a3, by rw [ad_N (by omega) (by omega) (by omega) (by omega) (by omega) (by omega)]; exact a4⟩, by rw [ad_wAll h4, hN1]; exact ⟨b1, b2, b3⟩, fun s2 hs2 => ?_⟩
  rw [ad_N0] at hs2
  by_cases hx : s2 = tN Aq 0
  · subst hx
    obtain ⟨n1, n2, n3, n4, n5⟩ := @ad_Nl Aq c1 c2 c3 c5 h4
    unfold invS
    rw [n1, n2, n3, n4, n5, ad_L4, ad_L8, ad_Cs]
    refine ⟨⟨hc1, hc2, hc3, by omega, hc5⟩, Nat.zero_le _, trivial, ?_⟩
    rw [show tN Aq 0 + 1 = tN (tAdd Aq c1 c2 c3 c5) 0 from ad_N0.symm, fP_S, ad_L (by omega) (by omega), h0]; rfl
  · obtain ⟨i1, i2, i3, i4⟩ := c s2 (by omega)
    unfold invS
    rw [ad_N (by omega) (by omega) (by omega) (by omega) (by omega) (by omega), ad_N (by omega) (by omega) (by omega) (by omega) (by omega) (by omega), ad_N (by omega) (by omega) (by omega) (by omega) (by omega) (by omega), ad_N (by omega) (by omega) (by omega) (by omega) (by omega) (by omega), ad_N (by omega) (by omega) (by omega) (by omega) (by omega) (by omega), ad_L (by omega) (by omega), ad_L (by omega) (by omega), ad_C (by omega)]
    refine ⟨i1, i2, i3, ?_⟩
    rw [i4]
    have e1 := congrArg List.length (fDn_eq (Aq := Aq) (s2 + 1) (by omega))
    have e2 := congrArg List.length (fDn_eq (Aq := tAdd Aq c1 c2 c3 c5) (s2 + 1) (by rw [ad_N0]; omega))
    rw [ad_fAll h4, fDn_c (Aq := tAdd Aq c1 c2 c3 c5) (Bq := Aq) (s2 + 1) (ad_L (by omega) (by omega)) (fun s3 a => ⟨ad_L (by omega) (by omega), ad_C (by omega)⟩)] at e2
    rw [List.length_append] at e1 e2
    omega
theorem inv_Num {jq vq : Nat} (h : invT Aq) (hj : (jq = 2 ∧ vq ≤ 3) ∨ (jq = 3 ∧ vq ≤ 1) ∨ (16 ≤ jq ∧ jq < 20 ∧ vq ≤ 39)) : invT (tNum Aq jq vq) := by
  obtain ⟨⟨a1, a2, a3, a4⟩, b, c⟩ := h
  have hN : ∀ z9, z9 ≠ jq → tN (tNum Aq jq vq) z9 = tN Aq z9 := fun z9 hz => by show va_up (tN Aq) jq vq z9 = _; exact va_up_ne _ _ hz
  have hNs : tN (tNum Aq jq vq) jq = vq := by show va_up (tN Aq) jq vq jq = _; exact va_up_self _ _ _
  have hw : wAll (tNum Aq jq vq) = wAll Aq := wAll_same rfl rfl (hN 0 (by omega))
  refine ⟨⟨by rw [hN 0 (by omega)]; exact a1, by rw [hN 1 (by omega)]; exact a2, ?_, ?_⟩, by rw [hw, hN 1 (by omega)]; exact b, fun s2 hs2 => ?_⟩
  · by_cases hx : jq = 2
    · subst hx; rw [hNs]; omega
    · rw [hN 2 (by omega)]; exact a3
  · by_cases hx : jq = 3
    · subst hx; rw [hNs]; omega
    · rw [hN 3 (by omega)]; exact a4
  · rw [hN 0 (by omega)] at hs2
    obtain ⟨⟨i1, i2, i3, i4, i5⟩, i6, i7, i8⟩ := c s2 hs2
    have hP : fP (tNum Aq jq vq) (s2 + 1) = fP Aq (s2 + 1) := fP_eq (hN 0 (by omega)) rfl (fun s3 _ _ => ⟨rfl, rfl⟩)
    unfold invS
    rw [hP, hN (4 + s2) (by omega), hN (8 + s2) (by omega), hN (12 + s2) (by omega), hN (20 + s2) (by omega)]
    refine ⟨⟨i1, i2, i3, ?_, i5⟩, i6, i7, i8⟩
    by_cases hx : 16 + s2 = jq
    · subst hx; rw [hNs]; omega
    · rw [hN _ hx]; exact i4
theorem inv_Letter {kq : Nat} {lq : Int32} (h : invT Aq) : invT (tLetter Aq kq lq) := inv_same (Aq := Aq) (Bq := tLetter Aq kq lq) rfl rfl rfl h
theorem bk_D : ∀ jq, fDn (tBack Aq) jq = (List.range (tN Aq 1)).map eSt ∧ wDn (tBack Aq) jq = List.range (tN Aq 1) := by
  have h1 : tL (tBack Aq) 1 = List.range (tN Aq 1) := rfl
  have h4 : ∀ jq, tL (tBack Aq) (4 + jq) = [] := fun jq => by show va_up (fun _ => []) 1 (List.range (tN Aq 1)) (4 + jq) = _; exact va_up_ne _ _ (by omega)
  intro jq
  induction jq with
  | zero => unfold fDn wDn; rw [h1]; exact ⟨rfl, rfl⟩
  | succ jq ih =>
    unfold fDn wDn fSt
    rw [h4, ih.1, ih.2]
    exact ⟨rfl, rfl⟩
theorem bk_0 : tL (tBack Aq) 0 = [] := rfl
theorem bk_L {jq : Nat} (h : jq ≠ 1) : tL (tBack Aq) jq = [] := by show va_up (fun _ => []) 1 (List.range (tN Aq 1)) jq = _; exact va_up_ne _ _ h
theorem bk_L1 : tL (tBack Aq) 1 = List.range (tN Aq 1) := rfl
theorem bk_P {jq : Nat} : fP (tBack Aq) jq = [] := by
  unfold fP
  rw [bk_0, fUp_nil _ _ (fun s2 _ => ⟨bk_L (by omega), rfl⟩)]; rfl
theorem inv_Back (h : invT Aq) : invT (tBack Aq) := by
  obtain ⟨a, b, c⟩ := h
  have hw : wAll (tBack Aq) = List.range (tN Aq 1) := by
    unfold wAll
    rw [bk_0, (bk_D _).2]; rfl
  refine ⟨a, ?_, fun s2 hs2 => ?_⟩
  · rw [hw]
    exact ⟨List.length_range, List.nodup_range, fun kq hk => List.mem_range.mp hk⟩
  · have hs2 : s2 < tN Aq 0 := hs2
    obtain ⟨i1, i2, i3, i4⟩ := c s2 hs2
    unfold invS
    rw [bk_L (by omega), bk_L (by omega), bk_P]
    exact ⟨i1, Nat.zero_le _, trivial, rfl⟩
theorem inv_New : invT tNew := by
  refine ⟨⟨by decide, by decide, by decide, by decide⟩, ⟨rfl, List.nodup_nil, fun kq hk => by cases hk⟩, fun s2 hs2 => absurd hs2 (Nat.not_lt_zero _)⟩
end QI

/-! the pure part: a tick of the state between, and what stays true -/
abbrev tGreen (Aq : TA) (sq : Nat) : Prop := tT Aq + zN (tN Aq (16 + sq)) - (tT Aq + zN (tN Aq (16 + sq))) / zN (tN Aq (8 + sq) + tN Aq (12 + sq)) * zN (tN Aq (8 + sq) + tN Aq (12 + sq)) < zN (tN Aq (8 + sq))
abbrev tFree (Aq : TA) (sq : Nat) : Prop := sq + 1 = tN Aq 0 ∨ ∀ eq ∈ tC Aq (sq + 1), 0 < eq.1
abbrev goL (Aq : TA) (sq : Nat) : Prop := tL Aq (4 + sq) ≠ [] ∧ tGreen Aq sq ∧ tFree Aq sq
def tI (Aq : TA) (sq : Nat) : Nat := chI (tN Aq 2) (tX Aq) (fun jq => zN ((tL Aq (4 + sq)).getD jq 0)) (tL Aq (4 + sq)).length
def tWho (Aq : TA) (sq : Nat) : Nat := (tL Aq (4 + sq)).getD (tI Aq sq) 0
def tLv (Aq : TA) (sq : Nat) : TA :=
  if sq + 1 = tN Aq 0 then (va_up (va_up (va_up (tL Aq) (4 + sq) ((tL Aq (4 + sq)).eraseIdx (tI Aq sq))) (8 + sq) (tL Aq (8 + sq) ++ [tWho Aq sq])) 0 (tL Aq 0 ++ [tWho Aq sq]), tC Aq, tN Aq, tE Aq, upd (tK Aq) (tWho Aq sq) (tT Aq), tT Aq, chX (tN Aq 2) (tX Aq))
  else (va_up (va_up (tL Aq) (4 + sq) ((tL Aq (4 + sq)).eraseIdx (tI Aq sq))) (8 + sq) (tL Aq (8 + sq) ++ [tWho Aq sq]), va_up (tC Aq) (sq + 1) (tC Aq (sq + 1) ++ [(0, tWho Aq sq)]), tN Aq, tE Aq, tK Aq, tT Aq, chX (tN Aq 2) (tX Aq))
def tLeave (Aq : TA) (sq : Nat) : TA := if goL Aq sq then tLv Aq sq else Aq
def tJn (Aq : TA) (sq : Nat) (e1 : Nat × Nat) (es : List (Nat × Nat)) : TA := (va_up (tL Aq) (4 + sq) (tL Aq (4 + sq) ++ [e1.2]), va_up (tC Aq) sq es, tN Aq, tE Aq, tK Aq, tT Aq, tX Aq)
def tJoin (Aq : TA) (sq : Nat) : TA := match tC Aq sq with
  | [] => Aq
  | e1 :: es => if e1.1 + 1 = tN Aq (4 + sq) ∧ (tL Aq (4 + sq)).length < tN Aq (20 + sq) then tJn Aq sq e1 es else Aq
def tSetC (Aq : TA) (sq : Nat) (es : List (Nat × Nat)) : TA := (tL Aq, va_up (tC Aq) sq es, tN Aq, tE Aq, tK Aq, tT Aq, tX Aq)
def tMv (Aq : TA) (sq : Nat) : TA := tSetC Aq sq (mvC (tN Aq (4 + sq)) (tC Aq sq))
def tMx (Aq : TA) (sq : Nat) : TA := if tN Aq 3 = 1 then tSetC Aq sq (mxC (tC Aq sq)) else Aq
def tStreet (Aq : TA) (sq : Nat) : TA := tMx (tMv (tJoin (tLeave Aq sq) sq) sq) sq
def tDown : Nat → TA → TA
  | 0, Aq => Aq
  | sq + 1, Aq => tDown sq (tStreet Aq sq)
def tTime (Aq : TA) : TA := (tL Aq, tC Aq, tN Aq, tE Aq, tK Aq, tT Aq + zN 1, tX Aq)
def tOt (Aq : TA) (kq : Nat) (ks : List Nat) : TA := (va_up (tL Aq) 1 ks, va_up (tC Aq) 0 (tC Aq 0 ++ [(0, kq)]), tN Aq, tE Aq, tK Aq, tT Aq, tX Aq)
def tOut (Aq : TA) : TA := match tL Aq 1 with
  | [] => Aq
  | kq :: ks => if 0 < tN Aq 0 ∧ ∀ eq ∈ tC Aq 0, 0 < eq.1 then tOt Aq kq ks else Aq
def tTick (Aq : TA) : TA := tOut (tDown (tN Aq 0) (tTime Aq))
-- walkers
def wSt (Aq : TA) (sq : Nat) : List Nat := tL Aq (4 + sq) ++ (tC Aq sq).map Prod.snd
def wUp (Aq : TA) : Nat → Nat → List Nat
  | _, 0 => []
  | jq, nq + 1 => wUp Aq (jq + 1) nq ++ wSt Aq jq
def wP (Aq : TA) (jq : Nat) : List Nat := tL Aq 0 ++ wUp Aq jq (tN Aq 0 - jq)
section QI
variable {Aq Bq : TA} {sq : Nat}
theorem wDn_eq : ∀ jq, jq ≤ tN Aq 0 → wAll Aq = wP Aq jq ++ wDn Aq jq := by
  have h : ∀ dq jq, jq + dq = tN Aq 0 → wAll Aq = wP Aq jq ++ wDn Aq jq := by
    intro dq
    induction dq with
    | zero =>
      intro jq h1
      have h1 : jq = tN Aq 0 := by omega
      subst h1
      unfold wP wAll; rw [Nat.sub_self]; unfold wUp; rw [List.append_nil]
    | succ dq ih =>
      intro jq h1
      rw [ih (jq + 1) (by omega)]
      unfold wP
      rw [show tN Aq 0 - jq = (tN Aq 0 - (jq + 1)) + 1 by omega]
      show _ ++ (tL Aq (4 + jq) ++ (tC Aq jq).map Prod.snd ++ wDn Aq jq) = (_ ++ (wUp Aq (jq + 1) _ ++ wSt Aq jq)) ++ wDn Aq jq
      unfold wSt
      simp only [List.append_assoc]
  exact fun jq hj => h (tN Aq 0 - jq) jq (by omega)
theorem wP_S : wP Aq (tN Aq 0) = tL Aq 0 := by unfold wP; rw [Nat.sub_self]; unfold wUp; rw [List.append_nil]
theorem wP_s (h : sq < tN Aq 0) : wP Aq sq = wP Aq (sq + 1) ++ wSt Aq sq := by
  unfold wP
  rw [show tN Aq 0 - sq = (tN Aq 0 - (sq + 1)) + 1 by omega]
  show _ ++ (wUp Aq (sq + 1) _ ++ wSt Aq sq) = _
  rw [List.append_assoc]
theorem wUp_eq : ∀ nq jq, (∀ sq, jq ≤ sq → sq < jq + nq → tL Aq (4 + sq) = tL Bq (4 + sq) ∧ tC Aq sq = tC Bq sq) → wUp Aq jq nq = wUp Bq jq nq := by
  intro nq
  induction nq with
  | zero => intro jq _; rfl
  | succ nq ih =>
    intro jq h
    unfold wUp wSt
    obtain ⟨h1, h2⟩ := h jq (Nat.le_refl _) (by omega)
    rw [ih (jq + 1) (fun sq a b => h sq (by omega) (by omega)), h1, h2]
theorem wP_eq {jq : Nat} (hN : tN Aq 0 = tN Bq 0) (h0 : tL Aq 0 = tL Bq 0) (h : ∀ sq, jq ≤ sq → sq < tN Aq 0 → tL Aq (4 + sq) = tL Bq (4 + sq) ∧ tC Aq sq = tC Bq sq) : wP Aq jq = wP Bq jq := by
  unfold wP
  rw [h0, hN, wUp_eq (tN Bq 0 - jq) jq (fun sq a b => h sq a (by omega))]
theorem fUp_len : ∀ nq jq, (fUp Aq jq nq).length = (wUp Aq jq nq).length := by
  intro nq
  induction nq with
  | zero => intro jq; rfl
  | succ nq ih =>
    intro jq
    unfold fUp wUp fSt wSt
    simp only [List.length_append, List.length_map, ih]
theorem fP_len {jq : Nat} : (fP Aq jq).length = (wP Aq jq).length := by
  unfold fP wP
  simp only [List.length_append, List.length_map, fUp_len]
theorem fDn_len {jq : Nat} : (fDn Aq jq).length = (wDn Aq jq).length := by
  have h := congrArg List.length (@fDn_w Aq jq)
  rwa [List.length_map, List.length_map] at h
theorem len_split (h : invT Aq) {jq : Nat} (hj : jq ≤ tN Aq 0) : (fP Aq jq).length + (fDn Aq jq).length = tN Aq 1 := by
  have h1 := congrArg List.length (fDn_eq (Aq := Aq) jq hj)
  rw [List.length_append, fAll_len, h.2.1.1] at h1
  exact h1.symm
theorem len_street (h : invT Aq) (hs : sq < tN Aq 0) : (fP Aq (sq + 1)).length + (tL Aq (4 + sq)).length + (tC Aq sq).length + (fDn Aq sq).length = tN Aq 1 := by
  have h1 := len_split h (show sq + 1 ≤ tN Aq 0 from hs)
  have h2 : (fDn Aq (sq + 1)).length = (tL Aq (4 + sq)).length + (tC Aq sq).length + (fDn Aq sq).length := by
    show (fSt Aq sq ++ fDn Aq sq).length = _
    unfold fSt
    simp only [List.length_append, List.length_map]
  omega
/-- the three things of a state's walkers hold of another arrangement -/
theorem inv_perm (hp : (wAll Bq).Perm (wAll Aq)) (hN : tN Bq 1 = tN Aq 1) (h : (wAll Aq).length = tN Aq 1 ∧ (wAll Aq).Nodup ∧ ∀ kq ∈ wAll Aq, kq < tN Aq 1) : (wAll Bq).length = tN Bq 1 ∧ (wAll Bq).Nodup ∧ ∀ kq ∈ wAll Bq, kq < tN Bq 1 := by
  obtain ⟨a, b, c⟩ := h
  rw [hN]
  exact ⟨hp.length_eq.trans a, hp.nodup_iff.mpr b, fun kq hk => c kq (hp.mem_iff.mp hk)⟩
theorem am_eq {fq gq : Nat → Int32} : ∀ nq, (∀ jq, jq < nq → fq jq = gq jq) → am fq nq = am gq nq := by
  intro nq
  induction nq with
  | zero => intro _; rfl
  | succ nq ih =>
    intro h
    have h1 := ih (fun jq hj => h jq (by omega))
    have h2 : am gq nq < nq + 1 := by
      by_cases h0 : nq = 0
      · subst h0; exact Nat.zero_lt_one
      · have := @am_lt gq nq (by omega); omega
    unfold am
    rw [h1, h nq (Nat.lt_succ_self _), h (am gq nq) h2]
theorem chI_eq {rl nq : Nat} {xq : Int64} {fq gq : Nat → Int32} (h : ∀ jq, jq < nq → fq jq = gq jq) : chI rl xq fq nq = chI rl xq gq nq := by
  unfold chI; rw [am_eq nq h]
theorem chI_lt {rl nq : Nat} {xq : Int64} {fq : Nat → Int32} (h : 0 < nq) : chI rl xq fq nq < nq := by
  unfold chI
  split
  · exact h
  · split
    · omega
    · split
      · exact am_lt nq h
      · exact Nat.mod_lt _ h
theorem tI_lt (h : tL Aq (4 + sq) ≠ []) : tI Aq sq < (tL Aq (4 + sq)).length := chI_lt (List.length_pos_iff.mpr h)
theorem cDown_snoc {lm kq : Nat} {es : List (Nat × Nat)} (h : cDown lm es) (h0 : 0 < lm) (hz : ∀ eq ∈ es, 0 < eq.1) : cDown lm (es ++ [(0, kq)]) := by
  induction es generalizing lm with
  | nil => exact ⟨h0, trivial⟩
  | cons e es ih => exact ⟨h.1, ih h.2 (hz e List.mem_cons_self) (fun eq he => hz eq (List.mem_cons_of_mem _ he))⟩
theorem cDown_le {la lb : Nat} {es : List (Nat × Nat)} (h : cDown la es) (hl : la ≤ lb) : cDown lb es := by
  cases es with
  | nil => trivial
  | cons e es => exact ⟨Nat.lt_of_lt_of_le h.1 hl, h.2⟩
theorem mvC_down : ∀ {es : List (Nat × Nat)} {lm : Nat}, cDown lm es → cDown lm (mvC lm es) := by
  intro es
  induction es with
  | nil => intro lm h; trivial
  | cons e es ih =>
    intro lm h
    unfold mvC
    split
    · exact ⟨by assumption, ih (cDown_le h.2 (Nat.le_succ _))⟩
    · exact ⟨h.1, ih h.2⟩
theorem mvC_snd : ∀ {es : List (Nat × Nat)} {lm : Nat}, (mvC lm es).map Prod.snd = es.map Prod.snd := by
  intro es
  induction es with
  | nil => intro lm; rfl
  | cons e es ih =>
    intro lm
    unfold mvC
    split <;> simp only [List.map_cons, ih]
theorem mvC_len {es : List (Nat × Nat)} {lm : Nat} : (mvC lm es).length = es.length := by
  have h := congrArg List.length (@mvC_snd es lm)
  rwa [List.length_map, List.length_map] at h
theorem mxC_fst : ∀ {es : List (Nat × Nat)}, (mxC es).map Prod.fst = es.map Prod.fst
  | [] => rfl
  | [_] => rfl
  | e :: e2 :: es => by
    unfold mxC
    split
    · rfl
    · simp only [List.map_cons, mxC_fst (es := e2 :: es)]
theorem mxC_snd : ∀ {es : List (Nat × Nat)}, ((mxC es).map Prod.snd).Perm (es.map Prod.snd)
  | [] => .refl _
  | [_] => .refl _
  | e :: e2 :: es => by
    unfold mxC
    split
    · exact List.Perm.swap _ _ _
    · exact List.Perm.cons _ (mxC_snd (es := e2 :: es))
theorem mxC_len {es : List (Nat × Nat)} : (mxC es).length = es.length := by
  have h := congrArg List.length (@mxC_fst es)
  rwa [List.length_map, List.length_map] at h
theorem cDown_fst : ∀ {es fs : List (Nat × Nat)} {lm : Nat}, es.map Prod.fst = fs.map Prod.fst → cDown lm es → cDown lm fs := by
  intro es
  induction es with
  | nil =>
    intro fs lm h _
    cases fs with
    | nil => trivial
    | cons f fs => cases h
  | cons e es ih =>
    intro fs lm h hd
    cases fs with
    | nil => cases h
    | cons f fs =>
      simp only [List.map_cons, List.cons.injEq] at h
      exact ⟨h.1 ▸ hd.1, h.1 ▸ ih h.2 hd.2⟩
end QI

/-! the pure part: the state between class and model. Lists: 0 those who have come, 1 the start, 4+s a crowd, 8+s a corner's readers; cells falling; numbers: 0 streets, 1 walkers, 2 rule, 3 mixing, 4+s cells, 8+s green, 12+s red, 16+s shift, 20+s width; letters; times; the time; x -/
abbrev TA : Type := (Nat → List Nat) × (Nat → List (Nat × Nat)) × (Nat → Nat) × (Nat → Int32) × (Nat → Int32) × Int32 × Int64
abbrev tL (Aq : TA) : Nat → List Nat := Aq.1
abbrev tC (Aq : TA) : Nat → List (Nat × Nat) := Aq.2.1
abbrev tN (Aq : TA) : Nat → Nat := Aq.2.2.1
abbrev tE (Aq : TA) : Nat → Int32 := Aq.2.2.2.1
abbrev tK (Aq : TA) : Nat → Int32 := Aq.2.2.2.2.1
abbrev tT (Aq : TA) : Int32 := Aq.2.2.2.2.2.1
abbrev tX (Aq : TA) : Int64 := Aq.2.2.2.2.2.2
abbrev Ent : Type := Int32 × Int32 × Int32 × Int32
def eCome (kq : Nat) : Ent := (zN kq, zN 3, zM, zM)
def eCr (sq kq : Nat) : Ent := (zN kq, zN 2, zN sq, zM)
def eCe (sq : Nat) (eq : Nat × Nat) : Ent := (zN eq.2, zN 1, zN sq, zN eq.1)
def eSt (kq : Nat) : Ent := (zN kq, zN 0, zM, zM)
def fSt (Aq : TA) (sq : Nat) : List Ent := (tL Aq (4 + sq)).map (eCr sq) ++ (tC Aq sq).map (eCe sq)
def fUp (Aq : TA) : Nat → Nat → List Ent
  | _, 0 => []
  | jq, nq + 1 => fUp Aq (jq + 1) nq ++ fSt Aq jq
def fDn (Aq : TA) : Nat → List Ent
  | 0 => (tL Aq 1).map eSt
  | jq + 1 => fSt Aq jq ++ fDn Aq jq
/-- those who are beyond the corner ahead of street j, from the front -/
def fP (Aq : TA) (jq : Nat) : List Ent := (tL Aq 0).map eCome ++ fUp Aq jq (tN Aq 0 - jq)
def fAll (Aq : TA) : List Ent := (tL Aq 0).map eCome ++ fDn Aq (tN Aq 0)
def wDn (Aq : TA) : Nat → List Nat
  | 0 => tL Aq 1
  | jq + 1 => tL Aq (4 + jq) ++ (tC Aq jq).map Prod.snd ++ wDn Aq jq
/-- the walkers from the front -/
def wAll (Aq : TA) : List Nat := tL Aq 0 ++ wDn Aq (tN Aq 0)
def repAt (pq : Nat) (Eq : List Ent) (Rq : Nat → Nat → Int32) : Prop := ∀ iq eq, Eq[iq]? = some eq → Rq 11 (pq + iq) = eq.1 ∧ Rq 12 (pq + iq) = eq.2.1 ∧ Rq 13 (pq + iq) = eq.2.2.1 ∧ Rq 14 (pq + iq) = eq.2.2.2
/-- numbers, streets, readers, letters, times -/
def repN (Aq : TA) (xq : Int64) (sc : Nat → Int32) (Rq : Nat → Nat → Int32) : Prop :=
  (xq = tX Aq ∧ sc 0 = zN (tN Aq 0) ∧ sc 1 = zN (tN Aq 1) ∧ sc 2 = tT Aq ∧ sc 3 = zN (tN Aq 2) ∧ sc 4 = zN (tN Aq 3)) ∧
  (∀ sq, sq < tN Aq 0 → Rq 2 sq = zN (tN Aq (4 + sq)) ∧ Rq 3 sq = zN (tN Aq (8 + sq)) ∧ Rq 4 sq = zN (tN Aq (12 + sq)) ∧ Rq 5 sq = zN (tN Aq (16 + sq)) ∧ Rq 6 sq = zN (tN Aq (20 + sq)) ∧ Rq 7 sq = zN (tL Aq (8 + sq)).length ∧ ∀ iq kq, (tL Aq (8 + sq))[iq]? = some kq → Rq 8 (sq * 10 + iq) = zN kq) ∧
  (∀ kq, kq < tN Aq 1 → Rq 9 kq = tE Aq kq ∧ Rq 10 kq = tK Aq kq)
def repT (Aq : TA) (xq : Int64) (sc : Nat → Int32) (Rq : Nat → Nat → Int32) : Prop := repN Aq xq sc Rq ∧ repAt 0 (fAll Aq) Rq
def invS (Aq : TA) (sq : Nat) : Prop :=
  ((2 ≤ tN Aq (4 + sq) ∧ tN Aq (4 + sq) ≤ 20) ∧ (1 ≤ tN Aq (8 + sq) ∧ tN Aq (8 + sq) ≤ 20) ∧ tN Aq (12 + sq) ≤ 20 ∧ tN Aq (16 + sq) ≤ 39 ∧ 1 ≤ tN Aq (20 + sq) ∧ tN Aq (20 + sq) ≤ 6) ∧
  (tL Aq (4 + sq)).length ≤ tN Aq (20 + sq) ∧ cDown (tN Aq (4 + sq)) (tC Aq sq) ∧ (tL Aq (8 + sq)).length = (fP Aq (sq + 1)).length
def invT (Aq : TA) : Prop :=
  (tN Aq 0 ≤ 4 ∧ tN Aq 1 ≤ 10 ∧ tN Aq 2 ≤ 3 ∧ tN Aq 3 ≤ 1) ∧ ((wAll Aq).length = tN Aq 1 ∧ (wAll Aq).Nodup ∧ ∀ kq ∈ wAll Aq, kq < tN Aq 1) ∧ ∀ sq, sq < tN Aq 0 → invS Aq sq
section QF
variable {Aq Bq : TA} {Rq Rz : Nat → Nat → Int32} {xq : Int64} {sc : Nat → Int32}
theorem repAt_app {pq : Nat} {E1 E2 : List Ent} : repAt pq (E1 ++ E2) Rq ↔ repAt pq E1 Rq ∧ repAt (pq + E1.length) E2 Rq := by
  constructor
  · intro h
    refine ⟨fun iq eq he => ?_, fun iq eq he => ?_⟩
    · have h1 : iq < E1.length := (List.getElem?_eq_some_iff.mp he).1
      exact h iq eq (by rw [List.getElem?_append_left h1]; exact he)
    · have h2 := h (E1.length + iq) eq (by rw [List.getElem?_append_right (by omega), Nat.add_sub_cancel_left]; exact he)
      rw [← Nat.add_assoc] at h2; exact h2
  · rintro ⟨h1, h2⟩ iq eq he
    by_cases hl : iq < E1.length
    · exact h1 iq eq (by rw [List.getElem?_append_left hl] at he; exact he)
    · have h3 := h2 (iq - E1.length) eq (by rw [List.getElem?_append_right (by omega)] at he; exact he)
      rw [show pq + E1.length + (iq - E1.length) = pq + iq by omega] at h3; exact h3
theorem repAt_eq {pq : Nat} {E1 : List Ent} (h : repAt pq E1 Rq) (hz : ∀ iq, pq ≤ iq → iq < pq + E1.length → Rz 11 iq = Rq 11 iq ∧ Rz 12 iq = Rq 12 iq ∧ Rz 13 iq = Rq 13 iq ∧ Rz 14 iq = Rq 14 iq) : repAt pq E1 Rz := by
  intro iq eq he
  have h1 : iq < E1.length := (List.getElem?_eq_some_iff.mp he).1
  obtain ⟨a1, a2, a3, a4⟩ := hz (pq + iq) (by omega) (by omega)
  rw [a1, a2, a3, a4]; exact h iq eq he
theorem repAt_nil {pq : Nat} : repAt pq [] Rq := fun iq eq he => by cases he
theorem repAt_one {pq : Nat} {eq : Ent} (h : Rq 11 pq = eq.1 ∧ Rq 12 pq = eq.2.1 ∧ Rq 13 pq = eq.2.2.1 ∧ Rq 14 pq = eq.2.2.2) : repAt pq [eq] Rq := by
  intro iq e2 he
  cases iq with
  | zero => cases he; exact h
  | succ iq => cases he
theorem fDn_eq : ∀ jq, jq ≤ tN Aq 0 → fAll Aq = fP Aq jq ++ fDn Aq jq := by
  have h : ∀ dq jq, jq + dq = tN Aq 0 → fAll Aq = fP Aq jq ++ fDn Aq jq := by
    intro dq
    induction dq with
    | zero =>
      intro jq h1
      have h1 : jq = tN Aq 0 := by omega
      subst h1
      unfold fP fAll; rw [Nat.sub_self]; unfold fUp; rw [List.append_nil]
    | succ dq ih =>
      intro jq h1
      rw [ih (jq + 1) (by omega)]
      unfold fP
      rw [show tN Aq 0 - jq = (tN Aq 0 - (jq + 1)) + 1 by omega]
      show _ ++ (fSt Aq jq ++ fDn Aq jq) = (_ ++ (fUp Aq (jq + 1) _ ++ fSt Aq jq)) ++ fDn Aq jq
      simp only [List.append_assoc]
  exact fun jq hj => h (tN Aq 0 - jq) jq (by omega)
theorem fP_S : fP Aq (tN Aq 0) = (tL Aq 0).map eCome := by unfold fP; rw [Nat.sub_self]; unfold fUp; rw [List.append_nil]
theorem fP_s {sq : Nat} (h : sq < tN Aq 0) : fP Aq sq = fP Aq (sq + 1) ++ fSt Aq sq := by
  unfold fP
  rw [show tN Aq 0 - sq = (tN Aq 0 - (sq + 1)) + 1 by omega]
  show _ ++ (fUp Aq (sq + 1) _ ++ fSt Aq sq) = _
  rw [List.append_assoc]
theorem fUp_eq : ∀ nq jq, (∀ sq, jq ≤ sq → sq < jq + nq → tL Aq (4 + sq) = tL Bq (4 + sq) ∧ tC Aq sq = tC Bq sq) → fUp Aq jq nq = fUp Bq jq nq := by
  intro nq
  induction nq with
  | zero => intro jq _; rfl
  | succ nq ih =>
    intro jq h
    unfold fUp fSt
    obtain ⟨h1, h2⟩ := h jq (Nat.le_refl _) (by omega)
    rw [ih (jq + 1) (fun sq a b => h sq (by omega) (by omega)), h1, h2]
theorem fP_eq {jq : Nat} (hN : tN Aq 0 = tN Bq 0) (h0 : tL Aq 0 = tL Bq 0) (h : ∀ sq, jq ≤ sq → sq < tN Aq 0 → tL Aq (4 + sq) = tL Bq (4 + sq) ∧ tC Aq sq = tC Bq sq) : fP Aq jq = fP Bq jq := by
  unfold fP
  rw [h0, hN, fUp_eq (tN Bq 0 - jq) jq (fun sq a b => h sq a (by omega))]
theorem fDn_c : ∀ jq, tL Aq 1 = tL Bq 1 → (∀ sq, sq < jq → tL Aq (4 + sq) = tL Bq (4 + sq) ∧ tC Aq sq = tC Bq sq) → fDn Aq jq = fDn Bq jq := by
  intro jq
  induction jq with
  | zero => intro h1 _; unfold fDn; rw [h1]
  | succ jq ih =>
    intro h1 h
    unfold fDn fSt
    obtain ⟨h2, h3⟩ := h jq (Nat.lt_succ_self _)
    rw [ih h1 (fun sq a => h sq (by omega)), h2, h3]
theorem wDn_c : ∀ jq, tL Aq 1 = tL Bq 1 → (∀ sq, sq < jq → tL Aq (4 + sq) = tL Bq (4 + sq) ∧ tC Aq sq = tC Bq sq) → wDn Aq jq = wDn Bq jq := by
  intro jq
  induction jq with
  | zero => intro h1 _; unfold wDn; rw [h1]
  | succ jq ih =>
    intro h1 h
    unfold wDn
    obtain ⟨h2, h3⟩ := h jq (Nat.lt_succ_self _)
    rw [ih h1 (fun sq a => h sq (by omega)), h2, h3]
theorem fDn_w : ∀ jq, (fDn Aq jq).map (fun eq => eq.1) = (wDn Aq jq).map zN := by
  intro jq
  induction jq with
  | zero => unfold fDn wDn; rw [List.map_map]; rfl
  | succ jq ih =>
    unfold fDn wDn fSt
    simp only [List.map_append, List.map_map, ih]
    rfl
theorem fAll_w : (fAll Aq).map (fun eq => eq.1) = (wAll Aq).map zN := by
  unfold fAll wAll
  rw [List.map_append, List.map_append, fDn_w, List.map_map]; rfl
theorem fAll_len : (fAll Aq).length = (wAll Aq).length := by
  have h := congrArg List.length (@fAll_w Aq)
  rwa [List.length_map, List.length_map] at h
/-- what is below street s is elsewhere -/
theorem fDn_not {sq : Nat} : ∀ jq, jq ≤ sq → ∀ eq ∈ fDn Aq jq, eq.2.1 = zN 0 ∨ ∃ s2, s2 < sq ∧ eq.2.2.1 = zN s2 := by
  intro jq
  induction jq with
  | zero =>
    intro _ eq h
    obtain ⟨kq, -, rfl⟩ := List.mem_map.mp h
    exact Or.inl rfl
  | succ jq ih =>
    intro hj eq h
    rcases List.mem_append.mp h with h | h
    · right
      refine ⟨jq, by omega, ?_⟩
      rcases List.mem_append.mp h with h | h <;> obtain ⟨kq, -, rfl⟩ := List.mem_map.mp h <;> rfl
    · exact ih (by omega) eq h
theorem fUp_not {sq : Nat} : ∀ nq jq, sq < jq → ∀ eq ∈ fUp Aq jq nq, ∃ s2, sq < s2 ∧ s2 < jq + nq ∧ eq.2.2.1 = zN s2 := by
  intro nq
  induction nq with
  | zero => intro jq _ eq h; cases h
  | succ nq ih =>
    intro jq hj eq h
    rcases List.mem_append.mp h with h | h
    · obtain ⟨s2, a, b, c⟩ := ih (jq + 1) (by omega) eq h
      exact ⟨s2, a, by omega, c⟩
    · refine ⟨jq, hj, by omega, ?_⟩
      rcases List.mem_append.mp h with h | h <;> obtain ⟨kq, -, rfl⟩ := List.mem_map.mp h <;> rfl
theorem cDown_lt {lm : Nat} {es : List (Nat × Nat)} (h : cDown lm es) : ∀ eq ∈ es, eq.1 < lm := by
  induction es generalizing lm with
  | nil => intro eq he; cases he
  | cons e es ih =>
    intro eq he
    rcases List.mem_cons.mp he with rfl | he
    · exact h.1
    · have := ih h.2 eq he
      have := h.1
      omega
theorem cDown_last {lm : Nat} {es : List (Nat × Nat)} {e9 : Nat × Nat} (h : cDown lm (es ++ [e9])) : ∀ eq ∈ es, e9.1 < eq.1 := by
  induction es generalizing lm with
  | nil => intro eq he; cases he
  | cons e es ih =>
    intro eq he
    rcases List.mem_cons.mp he with rfl | he
    · exact cDown_lt h.2 e9 (List.mem_append_right _ List.mem_cons_self)
    · exact ih h.2 eq he
end QF

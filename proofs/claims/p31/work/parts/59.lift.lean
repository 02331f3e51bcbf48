/-! what class and law need of lists, rows and ticks -/
def mkA (aq nq : Nat) (fq : Nat → Int32) (w : pwW) : pwW := va_up w aq (.inl (0, nq, .inl fq))
section QR
variable {aq nq cq iq : Nat} {fq hq : Nat → Int32} {w : pwW} {vq : Int32} {αq : Type} {kq : Int32 → Option αq} {pq : pwW → Option αq}
theorem mkA_s : mkA aq nq fq w aq = .inl (0, nq, .inl fq) := va_up_self _ _ _
theorem mkA_o (h : cq ≠ aq) : mkA aq nq fq w cq = w cq := va_up_ne _ _ h
theorem mkA_mkA : mkA aq nq fq (mkA aq nq hq w) = mkA aq nq fq w := by
  funext jq; unfold mkA va_up; split <;> rfl
theorem md_ld (h : iq < nq) (h2 : iq < 2147483648) : (pwLd (mkA aq nq fq w) aq (zN iq)).bind kq = kq (fq iq) := by
  rw [qLd mkA_s (Or.inl rfl) (qIn_of h h2), zN_nat h2]; rfl
theorem md_st (h : iq < nq) (h2 : iq < 2147483648) : (pwSt0 (mkA aq nq fq w) aq (zN iq) vq).bind pq = pq (mkA aq nq (upd fq iq vq) w) := by
  rw [qSt mkA_s (qIn_of h h2), zN_nat h2]
  show pq _ = _
  congr 1
  funext jq; unfold mkA va_up; split <;> rfl
theorem md_ldo (h : cq ≠ aq) {jq : Int32} : (pwLd (mkA aq nq fq w) cq jq).bind kq = (pwLd w cq jq).bind kq := by
  unfold pwLd; rw [mkA_o h]
theorem iT_le {xq yq : Int} (h : xq ≤ yq) : (xq ≤ yq) = True := eq_true h
theorem iF_le {xq yq : Int} (h : yq < xq) : (xq ≤ yq) = False := eq_false (by omega)
theorem iT_lt {xq yq : Int} (h : xq < yq) : (xq < yq) = True := eq_true h
theorem iF_lt {xq yq : Int} (h : yq ≤ xq) : (xq < yq) = False := eq_false (by omega)
theorem jL0 : (0 : Int64).toInt = 0 := by decide
theorem jL1 : (1 : Int64).toInt = 1 := by decide
theorem jL2 : (2 : Int64).toInt = 2 := by decide
theorem jL3 : (3 : Int64).toInt = 3 := by decide
theorem jL5 : (5 : Int64).toInt = 5 := by decide
theorem jL6 : (6 : Int64).toInt = 6 := by decide
theorem jL9 : (9 : Int64).toInt = 9 := by decide
theorem jL10 : (10 : Int64).toInt = 10 := by decide
theorem jL12 : (12 : Int64).toInt = 12 := by decide
theorem jL20 : (20 : Int64).toInt = 20 := by decide
theorem jL25 : (25 : Int64).toInt = 25 := by decide
theorem jL39 : (39 : Int64).toInt = 39 := by decide
theorem jL60 : (60 : Int64).toInt = 60 := by decide
theorem jL99 : (99 : Int64).toInt = 99 := by decide
theorem jL255 : (255 : Int64).toInt = 255 := by decide
theorem jL500 : (500 : Int64).toInt = 500 := by decide
theorem i2l {pq : Int32} : pq.toInt64.toInt = pq.toInt := Int32.toInt_toInt64 pq
theorem zN_pred (h : nq < 2147483648) : (zN nq - zN 1).toInt = (nq : Int) - 1 := by
  by_cases h0 : 1 ≤ nq
  · rw [zN_sub h0, zN_toInt (by omega)]; omega
  · rw [show nq = 0 by omega]; decide
theorem lcL0 {xq yq : Int64} : (lg_cmp xq yq < zN 0) = (xq.toInt < yq.toInt) := propext ((lg_cmp_lt xq yq).trans Int64.lt_iff_toInt_lt)
theorem lcG0 {xq yq : Int64} : (zN 0 < lg_cmp xq yq) = (yq.toInt < xq.toInt) := propext ((lg_cmp_gt xq yq).trans Int64.lt_iff_toInt_lt)
theorem lcLe0 {xq yq : Int64} : (lg_cmp xq yq ≤ zN 0) = (xq.toInt ≤ yq.toInt) := propext ((lg_cmp_le xq yq).trans Int64.le_iff_toInt_le)
theorem lcGe0 {xq yq : Int64} : (zN 0 ≤ lg_cmp xq yq) = (yq.toInt ≤ xq.toInt) := propext ((lg_cmp_ge xq yq).trans Int64.le_iff_toInt_le)
end QR
def cO : List (Nat × Nat) → Nat → Option Nat
  | [], _ => none
  | eq :: es, cq => if eq.1 = cq then some eq.2 else cO es cq
def oV : Option Nat → Int32
  | none => zM
  | some kq => zN kq
def lsM (pq : Nat) (ls : List Nat) (fq : Nat → Int32) : Prop := ∀ iq kq, ls[iq]? = some kq → fq (pq + iq) = zN kq
section QD
variable {fq hq : Nat → Int32} {pq iq kq : Nat} {ls : List Nat} {Aq Bq : TA} {sq : Nat} {es : List (Nat × Nat)}
theorem lsM_eq (h : lsM pq ls fq) (he : ∀ jq, jq < ls.length → hq (pq + jq) = fq (pq + jq)) : lsM pq ls hq := fun jq k9 hk => by
  rw [he jq (List.getElem?_eq_some_iff.mp hk).1]; exact h jq k9 hk
theorem lsM_snoc (h : lsM pq ls fq) (he : ∀ jq, jq < ls.length → hq (pq + jq) = fq (pq + jq)) (hk : hq (pq + ls.length) = zN kq) : lsM pq (ls ++ [kq]) hq := fun jq k9 h9 => by
  by_cases hj : jq < ls.length
  · rw [List.getElem?_append_left hj] at h9
    rw [he jq hj]; exact h jq k9 h9
  · have h1 := (List.getElem?_eq_some_iff.mp h9).1
    rw [List.length_append, List.length_singleton] at h1
    have h2 : jq = ls.length := by omega
    subst h2
    rw [List.getElem?_append_right (Nat.le_refl _), Nat.sub_self] at h9
    cases h9
    exact hk
theorem cO_none {cq : Nat} : cO es cq = none ↔ ∀ eq ∈ es, ¬ eq.1 = cq := by
  induction es with
  | nil => exact ⟨fun _ eq h => (by cases h), fun _ => rfl⟩
  | cons e es ih =>
    unfold cO
    by_cases h : e.1 = cq
    · rw [if_pos h]
      exact ⟨fun hh => (by cases hh), fun hh => absurd h (hh e List.mem_cons_self)⟩
    · rw [if_neg h, ih]
      constructor
      · intro hh eq he
        rcases List.mem_cons.mp he with rfl | he
        · exact h
        · exact hh eq he
      · exact fun hh eq he => hh eq (List.mem_cons_of_mem _ he)
theorem cO_mem {cq : Nat} (h : cO es cq = some kq) : (cq, kq) ∈ es := by
  induction es with
  | nil => cases h
  | cons e es ih =>
    unfold cO at h
    by_cases hc : e.1 = cq
    · rw [if_pos hc] at h
      cases h
      rw [← hc]; exact List.mem_cons_self
    · rw [if_neg hc] at h
      exact List.mem_cons_of_mem _ (ih h)
/-- one more in the file -/
theorem f_more {ps : List Nat} {aq : Nat} {f7 : Nat → Int32} (h : lsM 0 ps f7) : lsM 0 (ps ++ [aq]) (upd f7 ps.length (zN aq)) :=
  lsM_snoc h (fun jq hj => by rw [Nat.zero_add, qU_n (by omega)]) (by rw [Nat.zero_add, qU_s])
end QD
def tTicks : Nat → TA → TA
  | 0, Aq => Aq
  | nq + 1, Aq => tTicks nq (tTick Aq)
def tIn : Nat → Nat → TA → Int32
  | 0, _, _ => zM
  | dq + 1, nq, Aq => if (tL Aq 0).length = tN Aq 1 then zN nq else tIn dq (nq + 1) (tTick Aq)
theorem inv_Ticks : ∀ nq (Aq : TA), invT Aq → invT (tTicks nq Aq)
  | 0, _, h => h
  | nq + 1, _, h => inv_Ticks nq _ (inv_Tick h)
theorem tTicks_N : ∀ nq (Aq : TA), invT Aq → tN (tTicks nq Aq) = tN Aq
  | 0, _, _ => rfl
  | nq + 1, _, h => (tTicks_N nq _ (inv_Tick h)).trans (tTick_N h)

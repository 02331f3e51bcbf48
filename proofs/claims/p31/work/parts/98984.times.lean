/-! the pure part: times; who has come stays so -/
def okT (bz : Nat) (Aq : TA) : Prop := (0 ≤ (tT Aq).toInt ∧ (tT Aq).toInt ≤ (bz : Int)) ∧ ∀ kq, kq < tN Aq 1 → (kq ∈ tL Aq 0 → 0 ≤ (tK Aq kq).toInt ∧ (tK Aq kq).toInt ≤ (tT Aq).toInt) ∧ (¬ kq ∈ tL Aq 0 → tK Aq kq = zM)
/-- more have come, times are right -/
def mor (bz : Nat) (Aq Bq : TA) : Prop := (tL Aq 0).length ≤ (tL Bq 0).length ∧ tT Bq = tT Aq ∧ tN Bq = tN Aq ∧ (okT bz Aq → okT bz Bq)
section QI
variable {Aq Bq Cq : TA} {sq bz cz nq : Nat}
theorem ok_same (h1 : tL Bq 0 = tL Aq 0) (h2 : tK Bq = tK Aq) (h3 : tT Bq = tT Aq) (h4 : tN Bq 1 = tN Aq 1) (h : okT bz Aq) : okT bz Bq := by
  unfold okT
  rw [h1, h2, h3, h4]
  exact h
theorem ok_le (h : okT bz Aq) (hb : bz ≤ cz) : okT cz Aq := ⟨⟨h.1.1, by have := h.1.2; omega⟩, h.2⟩
theorem mor_same (h1 : tL Bq 0 = tL Aq 0) (h2 : tK Bq = tK Aq) (h3 : tT Bq = tT Aq) (h4 : tN Bq = tN Aq) : mor bz Aq Bq :=
  ⟨by rw [h1]; exact Nat.le_refl _, h3, h4, ok_same h1 h2 h3 (by rw [h4])⟩
theorem mor_s : mor bz Aq Aq := mor_same rfl rfl rfl rfl
theorem mor_t (h1 : mor bz Aq Bq) (h2 : mor bz Bq Cq) : mor bz Aq Cq :=
  ⟨Nat.le_trans h1.1 h2.1, h2.2.1.trans h1.2.1, h2.2.2.1.trans h1.2.2.1, fun h => h2.2.2.2 (h1.2.2.2 h)⟩
theorem mor_Leave (h4 : sq < 4) : mor bz Aq (tLeave Aq sq) := by
  unfold tLeave
  split
  · by_cases hs : sq + 1 = tN Aq 0
    · refine ⟨by rw [tLv_0 hs, List.length_append]; omega, by unfold tLv; rw [if_pos hs], tLv_N, fun h => ?_⟩
      have hT : tT (tLv Aq sq) = tT Aq := by unfold tLv; rw [if_pos hs]
      have hK : tK (tLv Aq sq) = upd (tK Aq) (tWho Aq sq) (tT Aq) := by unfold tLv; rw [if_pos hs]
      refine ⟨by rw [hT]; exact h.1, fun kq hk => ?_⟩
      rw [tLv_N] at hk
      have h2 := h.2 kq hk
      rw [tLv_0 hs, hT, hK]
      by_cases hx : kq = tWho Aq sq
      · subst hx
        rw [qU_s]
        exact ⟨fun _ => ⟨h.1.1, Int.le_refl _⟩, fun h9 => absurd (List.mem_append_right _ (List.mem_singleton.mpr rfl)) h9⟩
      · rw [qU_n hx]
        refine ⟨fun h9 => ?_, fun h9 => h2.2 fun h8 => h9 (List.mem_append_left _ h8)⟩
        rcases List.mem_append.mp h9 with h9 | h9
        · exact h2.1 h9
        · exact absurd (List.mem_singleton.mp h9) hx
    · exact mor_same (tLv_0n h4 hs) (by unfold tLv; rw [if_neg hs]) (by unfold tLv; rw [if_neg hs]) tLv_N
  · exact mor_s
theorem mor_Join : mor bz Aq (tJoin Aq sq) := by
  unfold tJoin
  split
  · exact mor_s
  · split
    · exact mor_same (va_up_ne _ _ (by omega)) rfl rfl rfl
    · exact mor_s
theorem mor_Mx : mor bz Aq (tMx Aq sq) := by
  unfold tMx
  split
  · exact mor_same rfl rfl rfl rfl
  · exact mor_s
theorem mor_Mv : mor bz Aq (tMv Aq sq) := mor_same rfl rfl rfl rfl
theorem mor_Street (h4 : sq < 4) : mor bz Aq (tStreet Aq sq) := by
  unfold tStreet
  exact mor_t (mor_t (mor_t (mor_Leave h4) mor_Join) mor_Mv) mor_Mx
theorem mor_Down : ∀ jq (Aq : TA), jq ≤ 4 → mor bz Aq (tDown jq Aq)
  | 0, _, _ => mor_s
  | jq + 1, Aq, h => mor_t (mor_Street (by omega)) (mor_Down jq _ (by omega))
theorem mor_Out : mor bz Aq (tOut Aq) := by
  unfold tOut
  split
  · exact mor_s
  · split
    · next k9 ks9 _ _ => exact mor_same (by show va_up (tL Aq) 1 ks9 0 = _; exact va_up_ne _ _ (by omega)) rfl rfl rfl
    · exact mor_s
theorem ok_Time (h : okT bz Aq) (hb : bz + 1 < 2147483648) : okT (bz + 1) (tTime Aq) := by
  have hT : (tT Aq + zN 1).toInt = (tT Aq).toInt + 1 := by
    have a1 := h.1
    obtain ⟨t9, e1, e2, e3, e4⟩ := un_ex h.1.1
    rw [e1, zN_add, zN_toInt (by omega), zN_toInt (by omega)]
    omega
  refine ⟨⟨?_, ?_⟩, fun kq hk => ?_⟩
  · show 0 ≤ (tT Aq + zN 1).toInt
    have := h.1; omega
  · show (tT Aq + zN 1).toInt ≤ _
    have := h.1; omega
  · have h2 := h.2 kq hk
    refine ⟨fun h9 => ?_, h2.2⟩
    have h3 := h2.1 h9
    show 0 ≤ (tK Aq kq).toInt ∧ (tK Aq kq).toInt ≤ (tT Aq + zN 1).toInt
    omega
theorem come_Tick (h4 : tN Aq 0 ≤ 4) : (tL Aq 0).length ≤ (tL (tTick Aq) 0).length :=
  (mor_t (bz := 0) (mor_Down (tN Aq 0) (tTime Aq) h4) mor_Out).1
theorem ok_Tick (h4 : tN Aq 0 ≤ 4) (h : okT bz Aq) (hb : bz + 1 < 2147483648) : okT (bz + 1) (tTick Aq) :=
  (mor_t (mor_Down (tN Aq 0) (tTime Aq) h4) mor_Out).2.2.2 (ok_Time h hb)
theorem come_Ticks : ∀ nq (Aq : TA), invT Aq → (tL Aq 0).length ≤ (tL (tTicks nq Aq) 0).length
  | 0, _, _ => Nat.le_refl _
  | nq + 1, Aq, h => Nat.le_trans (come_Tick h.1.1) (come_Ticks nq _ (inv_Tick h))
theorem ok_Ticks : ∀ nq bz (Aq : TA), invT Aq → okT bz Aq → bz + nq < 2147483648 → okT (bz + nq) (tTicks nq Aq)
  | 0, _, _, _, h, _ => h
  | nq + 1, bz, Aq, hI, h, hb => by
    have h1 := ok_Ticks nq (bz + 1) (tTick Aq) (inv_Tick hI) (ok_Tick hI.1.1 h (by omega)) (by omega)
    rw [show bz + (nq + 1) = bz + 1 + nq by omega]; exact h1
theorem ticks_a : ∀ nq (mq : Nat) (Aq : TA), tTicks (nq + mq) Aq = tTicks mq (tTicks nq Aq)
  | 0, mq, Aq => by rw [Nat.zero_add]; rfl
  | nq + 1, mq, Aq => by
    rw [show nq + 1 + mq = (nq + mq) + 1 by omega]
    exact ticks_a nq mq (tTick Aq)
theorem come_len_le (h : invT Aq) : (tL Aq 0).length ≤ tN Aq 1 := by
  rw [← h.2.1.1]; unfold wAll; rw [List.length_append]; omega
theorem come_lt (h : invT Aq) {kq : Nat} (hk : kq ∈ tL Aq 0) : kq < tN Aq 1 := h.2.1.2.2 kq (by unfold wAll; exact List.mem_append_left _ hk)
-- actions
theorem ok_Walker {lq : Int32} (hI : invT Aq) (h : okT bz Aq) : okT bz (tWalker Aq lq) := by
  have h0 : tL (tWalker Aq lq) 0 = tL Aq 0 := rfl
  have hN1 : tN (tWalker Aq lq) 1 = tN Aq 1 + 1 := by show va_up (tN Aq) 1 _ 1 = _; exact va_up_self _ _ _
  refine ⟨h.1, fun kq hk => ?_⟩
  rw [hN1] at hk
  rw [h0]
  show (kq ∈ tL Aq 0 → 0 ≤ (upd (tK Aq) (tN Aq 1) zM kq).toInt ∧ (upd (tK Aq) (tN Aq 1) zM kq).toInt ≤ (tT Aq).toInt) ∧ (¬ kq ∈ tL Aq 0 → upd (tK Aq) (tN Aq 1) zM kq = zM)
  by_cases hx : kq = tN Aq 1
  · subst hx
    rw [qU_s]
    exact ⟨fun h9 => absurd (come_lt hI h9) (Nat.lt_irrefl _), fun _ => rfl⟩
  · rw [qU_n hx]
    exact h.2 kq (by omega)
theorem ok_Add {c1 c2 c3 c5 : Nat} (h : okT bz Aq) : okT bz (tAdd Aq c1 c2 c3 c5) :=
  ok_same (ad_L (by omega) (by omega)) rfl rfl (ad_N (by omega) (by omega) (by omega) (by omega) (by omega) (by omega)) h
theorem ok_Num {jq vq : Nat} (hj : jq ≠ 1) (h : okT bz Aq) : okT bz (tNum Aq jq vq) :=
  ok_same (Aq := Aq) (Bq := tNum Aq jq vq) rfl rfl rfl (by show va_up (tN Aq) jq vq 1 = _; exact va_up_ne _ _ (Ne.symm hj)) h
theorem ok_Letter {kq : Nat} {lq : Int32} (h : okT bz Aq) : okT bz (tLetter Aq kq lq) := ok_same rfl rfl rfl rfl h
theorem sw_come {kq oq : Nat} (hk : ¬ kq ∈ tL Aq 0) (ho : ¬ oq ∈ tL Aq 0) : tL (tSwap Aq kq oq) 0 = tL Aq 0 := by
  rw [sw_L (by decide)]
  have : ∀ ls : List Nat, ¬ kq ∈ ls → ¬ oq ∈ ls → ls.map (swp kq oq) = ls := by
    intro ls
    induction ls with
    | nil => intro _ _; rfl
    | cons v9 ls ih =>
      intro a b
      rw [List.map_cons, ih (fun h => a (List.mem_cons_of_mem _ h)) (fun h => b (List.mem_cons_of_mem _ h))]
      congr 1
      unfold swp
      rw [if_neg (fun h => a (by rw [h]; exact List.mem_cons_self)), if_neg (fun h => b (by rw [h]; exact List.mem_cons_self))]
  exact this _ hk ho
theorem ok_Swap {kq oq : Nat} (hk : ¬ kq ∈ tL Aq 0) (ho : ¬ oq ∈ tL Aq 0) (h : okT bz Aq) : okT bz (tSwap Aq kq oq) :=
  ok_same (sw_come hk ho) rfl rfl rfl h
theorem ok_Back (h : okT bz Aq) : okT bz (tBack Aq) := by
  refine ⟨h.1, fun kq _ => ⟨fun h9 => ?_, fun _ => rfl⟩⟩
  rw [bk_0] at h9
  cases h9
theorem ok_New : okT bz tNew := ⟨⟨by decide, by show (zN 0).toInt ≤ _; rw [zN_toInt (by omega)]; omega⟩, fun kq hk => absurd hk (Nat.not_lt_zero _)⟩
theorem ok_aW {pq : Int32} (hI : invT Aq) (h : okT bz Aq) : okT bz (aW Aq pq) := by unfold aW; split; exact ok_Walker hI h; exact h
theorem ok_aS {pq rq tq uq : Int32} (h : okT bz Aq) : okT bz (aS Aq pq rq tq uq) := by unfold aS; split; exact ok_Add h; exact h
theorem ok_aH {kq pq : Int32} (h : okT bz Aq) : okT bz (aH Aq kq pq) := by unfold aH; split; exact ok_Num (by omega) h; exact h
theorem ok_aG {kq pq : Int32} (h : okT bz Aq) : okT bz (aG Aq kq pq) := by unfold aG; split; exact ok_Num (by omega) h; exact h
theorem ok_aX {kq pq : Int32} (h : okT bz Aq) : okT bz (aX Aq kq pq) := by
  unfold aX; split
  · next h9 => exact ok_Swap h9.2.2.1 h9.2.2.2 h
  · exact h
theorem ok_aT {pq : Int32} (hI : invT Aq) (h : okT bz Aq) (hb : bz + 99 < 2147483648) : okT (bz + 99) (aT Aq pq) := by
  unfold aT; split
  · next h9 => exact ok_le (ok_Ticks (un pq) bz Aq hI h (by unfold un; omega)) (by unfold un; omega)
  · exact ok_le h (by omega)
theorem ok_carry {cq : Nat} {fn : Nat → Int32} (hI : invT Aq) (h : okT bz Aq) (hb : bz + 99 < 2147483648) : okT (bz + 99) (carry cq fn Aq).2 := by
  unfold carry
  split
  · exact ok_le (ok_aW hI h) (by omega)
  · split
    · exact ok_le (ok_aS h) (by omega)
    · split
      · exact ok_le (ok_aH h) (by omega)
      · split
        · exact ok_le (ok_aG h) (by omega)
        · split
          · exact ok_le (ok_aG h) (by omega)
          · split
            · exact ok_le (ok_aX h) (by omega)
            · exact ok_aT hI h hb
end QI

/-! heap rows: reads, stores, makings -/
theorem pwIn_u0 : ∀ w ∈ u_ws pwR_X0 pwT_X0 3, w ∈ pwGw := by decide +kernel
theorem pwIn_u1 : ∀ w ∈ u_ws pwR_X1 pwT_X1 1, w ∈ pwGw := by decide +kernel
theorem pwIn_u2 : ∀ w ∈ u_ws pwR_X3 pwT_X3 2, w ∈ pwGw := by decide +kernel
theorem pwIn_u3 : ∀ w ∈ u_ws pwR_X4 pwT_X4 8, w ∈ pwGw := by decide +kernel
theorem pwIn_u4 : ∀ w ∈ u_ws pwR_X5 pwT_X5 12, w ∈ pwGw := by decide +kernel
theorem pwIn_u5 : ∀ w ∈ u_ws pwR_X6 pwT_X6 7, w ∈ pwGw := by decide +kernel
theorem pwIn_u6 : ∀ w ∈ u_ws pwR_X7 pwT_X7 7, w ∈ pwGw := by decide +kernel
/-- what is known of a class whose objects the world holds -/
def pwClF (ci : Nat) (q : vw_C) : Prop := ∃ (y : Nat → FieldType) (fs : List Value), pwYs[ci]? = some y ∧ pwDef[ci]? = some fs ∧ fs.length = q.2.2 ∧ (∀ k, k < q.2.2 → parseFieldDescriptor (q.2.1 k).2.2.1 = some (y k)) ∧ (∀ a, a < q.2.2 → ∀ b, b < q.2.2 → a ≠ b → (q.2.1 a).2.1 ≠ (q.2.1 b).2.1) ∧ (∀ w ∈ u_ws q.1 q.2.1 q.2.2, w ∈ pwGw) ∧ (∀ j, j < q.2.2 → defaultValue (y j) = vp_V fs j) ∧ Jvm.Cond.instantiable q.1 q.2.2 ∈ pwGw ∧ Jvm.Cond.initialized q.1 ∈ pwGw
theorem pwClF0 : pwClF 0 (pwR_X0, pwT_X0, 3) := ⟨pwY_X0, _, rfl, rfl, rfl, by decide +kernel, by decide +kernel, pwIn_u0, by decide +kernel, by decide +kernel, by decide +kernel⟩
theorem pwClF1 : pwClF 1 (pwR_X1, pwT_X1, 1) := ⟨pwY_X1, _, rfl, rfl, rfl, by decide +kernel, by decide +kernel, pwIn_u1, by decide +kernel, by decide +kernel, by decide +kernel⟩
theorem pwClF2 : pwClF 2 (pwR_X3, pwT_X3, 2) := ⟨pwY_X3, _, rfl, rfl, rfl, by decide +kernel, by decide +kernel, pwIn_u2, by decide +kernel, by decide +kernel, by decide +kernel⟩
theorem pwClF3 : pwClF 3 (pwR_X4, pwT_X4, 8) := ⟨pwY_X4, _, rfl, rfl, rfl, by decide +kernel, by decide +kernel, pwIn_u3, by decide +kernel, by decide +kernel, by decide +kernel⟩
theorem pwClF4 : pwClF 4 (pwR_X5, pwT_X5, 12) := ⟨pwY_X5, _, rfl, rfl, rfl, by decide +kernel, by decide +kernel, pwIn_u4, by decide +kernel, by decide +kernel, by decide +kernel⟩
theorem pwClF5 : pwClF 5 (pwR_X6, pwT_X6, 7) := ⟨pwY_X6, _, rfl, rfl, rfl, by decide +kernel, by decide +kernel, pwIn_u5, by decide +kernel, by decide +kernel, by decide +kernel⟩
theorem pwClF6 : pwClF 6 (pwR_X7, pwT_X7, 7) := ⟨pwY_X7, _, rfl, rfl, rfl, by decide +kernel, by decide +kernel, pwIn_u6, by decide +kernel, by decide +kernel, by decide +kernel⟩
theorem pwClOk {ci : Nat} {q : vw_C} (h : pwCl[ci]? = some q) : pwClF ci q := by
  match ci, h with
  | 0, h => cases h; exact pwClF0
  | 1, h => cases h; exact pwClF1
  | 2, h => cases h; exact pwClF2
  | 3, h => cases h; exact pwClF3
  | 4, h => cases h; exact pwClF4
  | 5, h => cases h; exact pwClF5
  | 6, h => cases h; exact pwClF6
  | n + 7, h => cases h
theorem pwOkT_n {t : FieldType} {v : Value} (h : pwOkT t v = true) : narrow t v = v ∧ fits t v = true := by
  cases t <;> cases v <;> simp only [pwOkT, Bool.false_eq_true] at h
  all_goals first
    | exact ⟨rfl, rfl⟩
    | (simp only [Bool.or_eq_true, beq_iff_eq] at h
       rcases h with rfl | rfl <;> exact ⟨rfl, rfl⟩)
theorem pwVin {i : Int32} {n : Nat} (h : 0 ≤ i ∧ i.toNatClampNeg < n) : vp_in i n := fun q => by
  rcases q with q | q
  · exact absurd h.1 (Int32.not_le.mpr q)
  · omega
theorem pwP1 {D : va_G} {q : Nat × va_E} {H : Heap} (h : va_at D pwCl q H) : va_P D pwCl [q] H := fun k p hp => by
  match k, hp with
  | 0, hp => cases hp; exact h
  | k + 1, hp => cases hp
theorem pwRW.set {K : pwKK} {g : pwG} {w : pwW} {H H' : Heap} {a : Nat} {e : va_E} (hR : pwRW K g w H) (ha : K.1 ≤ a ∧ a < g.1) (hv : pwVld e) (hat : va_at K.2.1 pwCl (a, pwTg K.2.2.1 e) H') (z : H'.size = H.size) (oq : ∀ q, q ≠ a → H'[q]? = H[q]?) : pwRW K g (va_up w a e) H' := by
  obtain ⟨h1, h2, h3, h4, h5⟩ := hR
  refine ⟨fun b hb => ?_, fun b n x hb => ?_, h3, by rw [z]; exact h4, fun q => by rw [z]; exact h5 q⟩
  · by_cases hba : b = a
    · subst hba
      simp only [va_up, if_true] at hb ⊢
      exact ⟨ha.1, ha.2, hat⟩
    · simp only [va_up, if_neg hba] at hb ⊢
      obtain ⟨q1, q2, q3⟩ := h1 b hb
      exact ⟨q1, q2, q3.kept (oq b hba)⟩
  · by_cases hba : b = a
    · subst hba
      simp only [va_up, if_true] at hb
      rw [hb] at hv
      have h9 : 4 ≤ 3 := hv
      omega
    · simp only [va_up, if_neg hba] at hb
      exact h2 b n x hb
theorem pwRW.new {K : pwKK} {g g' : pwG} {w : pwW} {H H' : Heap} {e : va_E} (hR : pwRW K g w H) (h0 : g.2.1 = 0) (hg : g'.1 = g.1 + 1) (hv : pwVld e) (hat : va_at K.2.1 pwCl (g.1, pwTg K.2.2.1 e) H') (z : H'.size = H.size + 1) (oq : ∀ q, q < H.size → H'[q]? = H[q]?) : pwRW K g' (va_up w g.1 e) H' := by
  obtain ⟨h1, h2, h3, h4, h5⟩ := hR
  have hs := h5 h0
  refine ⟨fun b hb => ?_, fun b n x hb => ?_, by omega, by omega, fun q => by omega⟩
  · by_cases hba : b = g.1
    · subst hba
      simp only [va_up, if_true] at hb ⊢
      exact ⟨h3, by omega, hat⟩
    · simp only [va_up, if_neg hba] at hb ⊢
      obtain ⟨q1, q2, q3⟩ := h1 b hb
      exact ⟨q1, by omega, q3.kept (oq b (by omega))⟩
  · by_cases hba : b = g.1
    · subst hba
      simp only [va_up, if_true] at hb
      rw [hb] at hv
      have h9 : 4 ≤ 3 := hv
      omega
    · simp only [va_up, if_neg hba] at hb
      exact h2 b n x hb
section PWH
variable {K : pwKK} {p : Program} {l : Launch} {e : Env} {R : Room} {s : State} {m : MethodId} {args : Array Value} {below : List Frame} {meth : Method} {c : Code} {Q : State → Prop} {k0 s0 : Nat} {mt : pwMT} {pc len mi : Nat} {r : pwRP} {L : pwLL} {st : List Value} {g : pwG} {w : pwW} {x : pwS}
theorem pwI_getfield {i : Nat} (C : pwCx K p l R s m args meth c mt) (d : decode mt.1.2.2 pc = .ok (.getfield i, len)) (hk : pwChkL mt pc (.getfield i) len r = true) (ha : pwAct1 (.getfield i) len r mi pc L st g w = some (.inl x)) (kk : pwV K p l e R s m args below meth c Q k0 s0 mt x) : pwV K p l e R s m args below meth c Q k0 s0 mt (pc, L, st, g, w) := by
  simp only [pwAct1] at ha
  split at ha
  · rename_i a st'
    obtain ⟨v, hv, ha⟩ := Option.bind_eq_some_iff.mp ha
    simp only [pwGo, Option.some.injEq, Sum.inl.injEq] at ha; subst ha
    simp only [pwChkL, Bool.and_eq_true, Nat.beq_eq] at hk
    obtain ⟨hlen, hk⟩ := hk
    subst hlen
    cases hq : pwCl[r.1]? with
    | none => rw [hq] at hk; cases hk
    | some q =>
      rw [hq] at hk
      simp only [Bool.and_eq_true, Nat.blt_eq] at hk
      unfold pwGet at hv
      cases hw : w a with
      | inl z => rw [hw] at hv; cases hv
      | inr z =>
        obtain ⟨c0, fs⟩ := z
        rw [hw] at hv
        dsimp only at hv
        cases hb : Nat.beq c0 r.1 with
        | false => rw [hb] at hv; cases hv
        | true =>
          rw [hb, cond_true] at hv
          have hc0 : c0 = r.1 := Nat.eq_of_beq_eq_true hb
          subst hc0
          intro H locs cells slots ls hR hS hL h1 h2
          have hR : pwRW K g w H := hR
          have h1 : cells + k0 = g.2.2.1 := h1
          have h2 : slots + s0 = g.2.2.2 := h2
          obtain ⟨q1, q2, q3⟩ := hR.1 a (by rw [hw]; trivial)
          rw [hw] at q3
          obtain ⟨y, fs0, f1, f2, f3, f4, f5, f6, f7, f8, f9⟩ := pwClOk hq
          obtain ⟨hx, hcc, hr, hml, hown, hts, hlk, hin, htb, hst, hf, hlo, hKB⟩ := id C
          refine va_get (C := q.1) (T := q.2.1) (N := q.2.2) hx hcc hts f6 hown hKB.1 (pwP1 q3) 0 rfl hq r.2.1 hk.1 (hts _ (pwIn_mem hk.2)) (fun _ h => h) hv d ?_
          exact kk H locs cells slots ls hR hS hL h1 h2
  · cases ha
theorem pwPutR {i a k ci : Nat} {fs : List Value} {v : Value} {q : vw_C} {rest : List Value} {H : Heap} {locs : List Loc} {cells slots : Nat} {ls : Array Slot} (C : pwCx K p l R s m args meth c mt) (hq : pwCl[ci]? = some q) (hk : k < q.2.2) (hlink : Jvm.Cond.fieldLink mt.1.1 i (q.2.1 k).1 (q.2.1 k).2.1 (q.2.1 k).2.2.1 ∈ pwGw) (hat : va_at K.2.1 pwCl (a, .inr (ci, fs)) H) (hA : K.1 ≤ a) (hl : k < fs.length) (hok : pwOkV ci k v = true) (hfin : (q.2.1 k).2.2.2 = true → mt.1.2.1.name = "<init>" ∧ (q.2.1 k).1 = mt.1.1) (hS : va_S (pwA K.1) s.heap H locs) (d : decode mt.1.2.2 pc = .ok (.putfield i, 3))
    (kk : ∀ (H' : Heap) (locs' : List Loc), va_at K.2.1 pwCl (a, .inr (ci, fs.set k v)) H' → H'.size = H.size → (∀ z, z ≠ a → H'[z]? = H[z]?) → va_S (pwA K.1) s.heap H' locs' → W p l e R s m args below meth c H' locs' cells slots Q (F0 m (pc + 3) ls rest)) : W p l e R s m args below meth c H locs cells slots Q (F0 m pc ls (v :: .ref a :: rest)) := by
  obtain ⟨hx, hb, hr, hml, hown, hts, hlk, hin, htb, hst9, hf, hlo, hKB⟩ := id C
  obtain ⟨y, fs0, f1, f2, f3, f4, f5, f6, f7, f8, f9⟩ := pwClOk hq
  have hK := hKB.1
  have hap := va_apart (own := mt.1.1) hts f6 y f4 f5 hK hq
  obtain ⟨r0, h1, cell, q1, q2, q3, q4⟩ := hat
  have hr0 : r0 = q := Option.some.inj (h1.symm.trans hq)
  subst hr0
  obtain ⟨hSl, hfc, kC, hkC, hkind⟩ := hK.1 ci _ hq
  obtain ⟨cf, kf, fi, f, hi, hsl⟩ := hSl k hk
  have hok2 : pwOkT (y k) v = true := by unfold pwOkV at hok; rw [f1] at hok; exact hok
  obtain ⟨hn, hfit⟩ := pwOkT_n hok2
  have hlay := hts _ (f6 _ (u_in_lay hk))
  unfold u_lay at hlay
  have hst := (u_facts hfc hkC (u_lays hts f6 hk) hi).1
  by_cases hfi : (r0.2.1 k).2.2.2 = true
  · obtain ⟨hin2, hdecl⟩ := hfin hfi
    rw [if_pos hfi] at hlay
    have hcf : m.cls = cf := by
      obtain ⟨_, _, c', _, _, _, -, -, hf', -, -, -, hown2, -⟩ := Cond.laysFinal_spec hlay
      have e1 : c' = cf := by have := hi.symm.trans hf'; simp at this; exact this.1.symm
      rw [hdecl] at hown2
      rw [← e1]; exact Option.some.inj (hown.symm.trans hown2)
    have h6 := u_fits hfc hkC hkind (Or.inr hlay) hi (f4 k hk) hn hfit
    refine W.putFinK hx hb hown (hts _ hlink) hi hst hcf (hin hin2) (by rw [q2]; exact h6) q1 q3 (by rw [hsl]; exact k2_hasslot (q4 k hk)) rfl rfl d fun H' e1 e2 e3 => ?_
    rw [hsl] at e1 ⊢
    exact kk H' _ ⟨_, hq, t_OB.to (V := updV (vp_V fs) k v) ⟨_, e1, q2, q3, t_set q4 hap hk v⟩ (fun j _ => vp_updV_set hl v j)⟩ e2 e3 (hS.put e2 e3 hA)
  · rw [if_neg hfi] at hlay
    have h6 := u_store hfc hkC hkind hlay hi (f4 k hk) hn hfit
    refine W.putK hx hb (f := f) ⟨hown, hts _ hlink, ⟨_, _, _, hi⟩, hst⟩ (by rw [q2]; exact h6) q1 q3 (by rw [hsl]; exact k2_hasslot (q4 k hk)) rfl rfl d fun H' e1 e2 e3 => ?_
    rw [hsl] at e1 ⊢
    exact kk H' _ ⟨_, hq, t_OB.to (V := updV (vp_V fs) k v) ⟨_, e1, q2, q3, t_set q4 hap hk v⟩ (fun j _ => vp_updV_set hl v j)⟩ e2 e3 (hS.put e2 e3 hA)
theorem pwI_putfield {i : Nat} (C : pwCx K p l R s m args meth c mt) (d : decode mt.1.2.2 pc = .ok (.putfield i, len)) (hk : pwChkL mt pc (.putfield i) len r = true) (ha : pwAct1 (.putfield i) len r mi pc L st g w = some (.inl x)) (kk : pwV K p l e R s m args below meth c Q k0 s0 mt x) : pwV K p l e R s m args below meth c Q k0 s0 mt (pc, L, st, g, w) := by
  simp only [pwAct1] at ha
  split at ha
  · rename_i v a st'
    cases hok : pwOkV r.1 r.2.1 v with
    | false => rw [hok] at ha; cases ha
    | true =>
      rw [hok, cond_true] at ha
      obtain ⟨w1, hv, ha⟩ := Option.bind_eq_some_iff.mp ha
      simp only [pwGo, Option.some.injEq, Sum.inl.injEq] at ha; subst ha
      simp only [pwChkL, Bool.and_eq_true, Nat.beq_eq] at hk
      obtain ⟨hlen, hk⟩ := hk
      subst hlen
      cases hq : pwCl[r.1]? with
      | none => rw [hq] at hk; cases hk
      | some q =>
        rw [hq] at hk
        simp only [Bool.and_eq_true, Nat.blt_eq] at hk
        unfold pwPut at hv
        cases hw : w a with
        | inl z => rw [hw] at hv; cases hv
        | inr z =>
          obtain ⟨c0, fs⟩ := z
          rw [hw] at hv
          dsimp only at hv
          cases hb : (Nat.beq c0 r.1 && Nat.blt r.2.1 fs.length) with
          | false => rw [hb] at hv; cases hv
          | true =>
            rw [hb, cond_true] at hv
            simp only [Bool.and_eq_true, Nat.blt_eq] at hb
            have hc0 : c0 = r.1 := Nat.eq_of_beq_eq_true hb.1
            subst hc0
            cases hv
            intro H locs cells slots ls hR hS hL h1 h2
            have hR : pwRW K g w H := hR
            have h1 : cells + k0 = g.2.2.1 := h1
            have h2 : slots + s0 = g.2.2.2 := h2
            obtain ⟨q1, q2, q3⟩ := hR.1 a (by rw [hw]; trivial)
            rw [hw] at q3
            refine pwPutR C hq hk.1.1 (pwIn_mem hk.1.2) q3 q1 hb.2 hok (fun hf => ?_) hS d (fun H' locs' e1 e2 e3 hS' => ?_)
            · have h9 := hk.2
              rw [hf, cond_true] at h9
              exact of_decide_eq_true h9
            · exact kk H' locs' cells slots ls (hR.set ⟨q1, q2⟩ trivial e1 e2 e3) hS' hL h1 h2
  · cases ha
theorem pwI_iaload (C : pwCx K p l R s m args meth c mt) (d : decode mt.1.2.2 pc = .ok (.iaload, len)) (hk : pwChkL mt pc (.iaload) len r = true) (ha : pwAct1 (.iaload) len r mi pc L st g w = some (.inl x)) (kk : pwV K p l e R s m args below meth c Q k0 s0 mt x) : pwV K p l e R s m args below meth c Q k0 s0 mt (pc, L, st, g, w) := by
  have hlen : len = 1 := by simpa [pwChkL] using hk
  subst hlen
  simp only [pwAct1] at ha
  split at ha
  · rename_i i a st'
    obtain ⟨v, hv, ha⟩ := Option.bind_eq_some_iff.mp ha
    simp only [pwGo, Option.some.injEq, Sum.inl.injEq] at ha; subst ha
    unfold pwLd at hv
    split at hv
    · rename_i t n f hw
      split at hv
      · rename_i hc
        cases hv
        intro H locs cells slots ls hR hS hL h1 h2
        have hR : pwRW K g w H := hR
        have h1 : cells + k0 = g.2.2.1 := h1
        have h2 : slots + s0 = g.2.2.2 := h2
        obtain ⟨hx, hcc, hr, hml, hown, hts, hlk, hin, htb, hst, hf, hlo, hKB⟩ := id C
        rcases hc.1 with rfl | rfl
        · obtain ⟨q1, q2, q3⟩ := hR.1 a (by rw [hw]; exact Nat.zero_le 3)
          rw [hw] at q3
          refine va_iald hx hcc hKB.1 (pwP1 q3) 0 0 rfl rfl (pwVin hc.2) d ?_
          exact kk H locs cells slots ls hR hS hL h1 h2
        · obtain ⟨f', e1, e2⟩ := hR.2.1 a n _ hw
          cases e1
          obtain ⟨b1, b2⟩ := hKB.2.2.1 a n _ e2
          refine va_ti hx hcc b2 hS (pwVin hc.2) rfl d ?_
          exact kk H locs cells slots ls hR hS hL h1 h2
      · cases hv
    · cases hv
  · cases ha
theorem pwI_baload (C : pwCx K p l R s m args meth c mt) (d : decode mt.1.2.2 pc = .ok (.baload, len)) (hk : pwChkL mt pc (.baload) len r = true) (ha : pwAct1 (.baload) len r mi pc L st g w = some (.inl x)) (kk : pwV K p l e R s m args below meth c Q k0 s0 mt x) : pwV K p l e R s m args below meth c Q k0 s0 mt (pc, L, st, g, w) := by
  simp only [pwAct1] at ha
  cases ha
theorem pwI_laload (C : pwCx K p l R s m args meth c mt) (d : decode mt.1.2.2 pc = .ok (.laload, len)) (hk : pwChkL mt pc (.laload) len r = true) (ha : pwAct1 (.laload) len r mi pc L st g w = some (.inl x)) (kk : pwV K p l e R s m args below meth c Q k0 s0 mt x) : pwV K p l e R s m args below meth c Q k0 s0 mt (pc, L, st, g, w) := by
  simp only [pwAct1] at ha
  cases ha
theorem pwI_aaload (C : pwCx K p l R s m args meth c mt) (d : decode mt.1.2.2 pc = .ok (.aaload, len)) (hk : pwChkL mt pc (.aaload) len r = true) (ha : pwAct1 (.aaload) len r mi pc L st g w = some (.inl x)) (kk : pwV K p l e R s m args below meth c Q k0 s0 mt x) : pwV K p l e R s m args below meth c Q k0 s0 mt (pc, L, st, g, w) := by
  have hlen : len = 1 := by simpa [pwChkL] using hk
  subst hlen
  simp only [pwAct1] at ha
  split at ha
  · rename_i i a st'
    obtain ⟨v, hv, ha⟩ := Option.bind_eq_some_iff.mp ha
    simp only [pwGo, Option.some.injEq, Sum.inl.injEq] at ha; subst ha
    unfold pwLdQ at hv
    split at hv
    · rename_i t n f hw
      split at hv
      · rename_i hc
        intro H locs cells slots ls hR hS hL h1 h2
        have hR : pwRW K g w H := hR
        have h1 : cells + k0 = g.2.2.1 := h1
        have h2 : slots + s0 = g.2.2.2 := h2
        obtain ⟨hx, hcc, hr, hml, hown, hts, hlk, hin, htb, hst, hf, hlo, hKB⟩ := id C
        obtain rfl := hc.1
        obtain ⟨q1, q2, q3⟩ := hR.1 a (by rw [hw]; exact (by decide : 3 ≤ 3))
        rw [hw] at q3
        refine va_aldq (C := pwR_X5) hx hcc hKB.1 (pwP1 q3) 0 3 rfl rfl (pwVin hc.2) d ?_
        rw [hv]
        exact kk H locs cells slots ls hR hS hL h1 h2
      · cases hv
    · cases hv
  · cases ha
theorem pwI_arraylength (C : pwCx K p l R s m args meth c mt) (d : decode mt.1.2.2 pc = .ok (.arraylength, len)) (hk : pwChkL mt pc (.arraylength) len r = true) (ha : pwAct1 (.arraylength) len r mi pc L st g w = some (.inl x)) (kk : pwV K p l e R s m args below meth c Q k0 s0 mt x) : pwV K p l e R s m args below meth c Q k0 s0 mt (pc, L, st, g, w) := by
  have hlen : len = 1 := by simpa [pwChkL] using hk
  subst hlen
  simp only [pwAct1] at ha
  split at ha
  · rename_i a st'
    obtain ⟨v, hv, ha⟩ := Option.bind_eq_some_iff.mp ha
    simp only [pwGo, Option.some.injEq, Sum.inl.injEq] at ha; subst ha
    unfold pwLen at hv
    cases hw : w a with
    | inr z => rw [hw] at hv; cases hv
    | inl z =>
      obtain ⟨t, n, y⟩ := z
      rw [hw] at hv
      dsimp only at hv
      cases hb : Nat.ble t 4 with
      | false => rw [hb] at hv; cases hv
      | true =>
        rw [hb, cond_true] at hv
        have hnv : n = v := Option.some.inj hv
        subst hnv
        have ht4 : t ≤ 4 := Nat.le_of_ble_eq_true hb
        intro H locs cells slots ls hR hS hL h1 h2
        have hR : pwRW K g w H := hR
        have h1 : cells + k0 = g.2.2.1 := h1
        have h2 : slots + s0 = g.2.2.2 := h2
        obtain ⟨hx, hcc, hr, hml, hown, hts, hlk, hin, htb, hst, hf, hlo, hKB⟩ := id C
        rcases Nat.lt_or_ge 3 t with ht | ht
        · have : t = 4 := Nat.le_antisymm (Nat.le_of_ble_eq_true hb) ht
          subst this
          obtain ⟨f', e1, e2⟩ := hR.2.1 a n _ hw
          obtain ⟨b1, b2⟩ := hKB.2.2.1 a n _ e2
          refine va_tlen hx hcc b2 hS rfl d ?_
          exact kk H locs cells slots ls hR hS hL h1 h2
        · obtain ⟨q1, q2, q3⟩ := hR.1 a (by rw [hw]; exact ht)
          rw [hw] at q3
          obtain ⟨ty, hty⟩ : ∃ ty, (pwTys K.2.2.1)[t]? = some (K.2.2.1 t, ty) := by
            match t, ht with
            | 0, _ => exact ⟨_, rfl⟩
            | 1, _ => exact ⟨_, rfl⟩
            | 2, _ => exact ⟨_, rfl⟩
            | 3, _ => exact ⟨_, rfl⟩
          refine va_alen hx hcc hKB.1 (pwP1 q3) 0 t rfl hty rfl d ?_
          exact kk H locs cells slots ls hR hS hL h1 h2
  · cases ha
theorem pwI_iastore (C : pwCx K p l R s m args meth c mt) (d : decode mt.1.2.2 pc = .ok (.iastore, len)) (hk : pwChkL mt pc (.iastore) len r = true) (ha : pwAct1 (.iastore) len r mi pc L st g w = some (.inl x)) (kk : pwV K p l e R s m args below meth c Q k0 s0 mt x) : pwV K p l e R s m args below meth c Q k0 s0 mt (pc, L, st, g, w) := by
  have hlen : len = 1 := by simpa [pwChkL] using hk
  subst hlen
  simp only [pwAct1] at ha
  split at ha
  · rename_i xv i a st'
    obtain ⟨w1, hv, ha⟩ := Option.bind_eq_some_iff.mp ha
    simp only [pwGo, Option.some.injEq, Sum.inl.injEq] at ha; subst ha
    unfold pwSt0 at hv
    split at hv
    · rename_i t n f hw
      split at hv
      · rename_i hc
        cases hv
        intro H locs cells slots ls hR hS hL h1 h2
        have hR : pwRW K g w H := hR
        have h1 : cells + k0 = g.2.2.1 := h1
        have h2 : slots + s0 = g.2.2.2 := h2
        obtain ⟨hx, hcc, hr, hml, hown, hts, hlk, hin, htb, hst, hf, hlo, hKB⟩ := id C
        obtain rfl := hc.1
        obtain ⟨q1, q2, q3⟩ := hR.1 a (by rw [hw]; exact Nat.zero_le 3)
        rw [hw] at q3
        have hvi := pwVin hc.2
        refine W.iast hx hcc q3 ((hKB.1.2 0 _ rfl).1 n (fun j => .int (f j))) (fun q => by cases q) (by show ¬ (i < 0 ∨ (arrV _ _ _).slots.size ≤ _); rw [arrV_size]; exact hvi) rfl rfl d fun H1 e9 z oq => ?_
        refine kk H1 _ cells slots ls (hR.set ⟨q1, q2⟩ (Nat.zero_le 3) ?_ z oq) (hS.put z oq q1) hL h1 h2
        show H1[a]? = some (vp_cell _ _)
        rw [e9]
        rw [vp_cell_i, vp_cell_i, arrV_store]
        congr 2
        funext q
        by_cases hq : q = i.toNatClampNeg
        · subst hq
          simp [updV, upd]
        · simp [updV, upd, hq]
      · cases hv
    · cases hv
  · cases ha
theorem pwI_bastore (C : pwCx K p l R s m args meth c mt) (d : decode mt.1.2.2 pc = .ok (.bastore, len)) (hk : pwChkL mt pc (.bastore) len r = true) (ha : pwAct1 (.bastore) len r mi pc L st g w = some (.inl x)) (kk : pwV K p l e R s m args below meth c Q k0 s0 mt x) : pwV K p l e R s m args below meth c Q k0 s0 mt (pc, L, st, g, w) := by
  simp only [pwAct1] at ha
  cases ha
theorem pwI_lastore (C : pwCx K p l R s m args meth c mt) (d : decode mt.1.2.2 pc = .ok (.lastore, len)) (hk : pwChkL mt pc (.lastore) len r = true) (ha : pwAct1 (.lastore) len r mi pc L st g w = some (.inl x)) (kk : pwV K p l e R s m args below meth c Q k0 s0 mt x) : pwV K p l e R s m args below meth c Q k0 s0 mt (pc, L, st, g, w) := by
  simp only [pwAct1] at ha
  cases ha
theorem pwI_newarray {t : ArrayType} (hrc : x.2.2.2.1.2.2.1 ≤ R.cells + k0) (hrs : x.2.2.2.1.2.2.2 ≤ R.slots + s0) (C : pwCx K p l R s m args meth c mt) (d : decode mt.1.2.2 pc = .ok (.newarray t, len)) (hk : pwChkL mt pc (.newarray t) len r = true) (ha : pwAct1 (.newarray t) len r mi pc L st g w = some (.inl x)) (kk : pwV K p l e R s m args below meth c Q k0 s0 mt x) : pwV K p l e R s m args below meth c Q k0 s0 mt (pc, L, st, g, w) := by
  simp only [pwChkL, Bool.and_eq_true, Nat.beq_eq] at hk
  obtain ⟨hlen, hty⟩ := hk
  subst hlen
  simp only [pwAct1] at ha
  split at ha
  · rename_i n st'
    obtain ⟨q, hq, ha⟩ := Option.bind_eq_some_iff.mp ha
    split at ha
    · rename_i hc
      simp only [pwGo, Option.some.injEq, Sum.inl.injEq] at ha; subst ha
      intro H locs cells slots ls hR hS hL h1 h2
      have hR : pwRW K g w H := hR
      have h1 : cells + k0 = g.2.2.1 := h1
      have h2 : slots + s0 = g.2.2.2 := h2
      obtain ⟨hx, hcc, hr, hml, hown, hts, hlk, hin, htb, hst, hf, hlo, hKB⟩ := id C
      have hsz : H.size = g.1 := hR.2.2.2.2 hc.2
      have hn0 : ¬ n < 0 := Int32.not_lt.mpr hc.1.1
      dsimp only at hrc hrs
      have key : ∀ (ty : FieldType) (tg : Nat) (a0 : vp_A), newarray.typeOf t = ty → Jvm.Cond.arrayClass ty ∈ pwGw → (pwTys K.2.2.1)[tg]? = some (K.2.2.1 tg, ty) → tg ≤ 3 → q = (tg, a0) → refKind ty = false → (∀ U cA, va_RA U cA ty → U.vm.findClass ("[" ++ ty.toString) = some cA) → (∀ cA : ClassId, vp_cell cA (n.toNatClampNeg, a0.2) = arrV cA n.toNatClampNeg (fun _ => defaultValue ty)) → n.toNatClampNeg * componentBytes ty ≤ 536870912 → W p l e R s m args below meth c H locs cells slots Q (F0 m pc ls (.int n :: st')) := by
        intro ty tg a0 e1 e2 e3 e4 e5 e6 e7 e8 e9
        subst e1
        subst e5
        refine va_newaK hx hcc (hts _ e2) rfl d rfl hn0 rfl e9 (by omega) (by omega) hsz (fun H' cA g1 g2 g3 g4 g5 => ?_)
        have hcA : cA = K.2.2.1 tg := Option.some.inj (g5.symm.trans (e7 _ _ (hKB.1.2 tg _ e3).2))
        subst hcA
        refine kk H' locs (cells + 1) (slots + n.toNatClampNeg) ls (hR.new hc.2 rfl (by exact e4) ?_ (by omega) (fun z hz => g3 z (by omega))) ⟨by have := hS.1; omega, fun z h3 h4 => (g3 z (by have := hS.1; omega)).trans (hS.2.1 z h3 h4), hS.2.2⟩ hL (by dsimp only; omega) (by dsimp only; omega)
        show H'[g.1]? = some (vp_cell _ _)
        rw [g1, e8]
      have hb : n.toNatClampNeg ≤ 65536 := hc.1.2
      cases t <;> simp only [Bool.false_eq_true] at hty
      · cases hq
        exact key .int 0 _ rfl (by decide +kernel) rfl (by decide) rfl rfl (fun U cA h => h) (fun cA => rfl) (by simp only [componentBytes]; omega)
    · cases ha
  · cases ha
theorem pwI_anewarray {i : Nat} (hrc : x.2.2.2.1.2.2.1 ≤ R.cells + k0) (hrs : x.2.2.2.1.2.2.2 ≤ R.slots + s0) (C : pwCx K p l R s m args meth c mt) (d : decode mt.1.2.2 pc = .ok (.anewarray i, len)) (hk : pwChkL mt pc (.anewarray i) len r = true) (ha : pwAct1 (.anewarray i) len r mi pc L st g w = some (.inl x)) (kk : pwV K p l e R s m args below meth c Q k0 s0 mt x) : pwV K p l e R s m args below meth c Q k0 s0 mt (pc, L, st, g, w) := by
  simp only [pwChkL, Bool.and_eq_true, Nat.beq_eq] at hk
  obtain ⟨hlen, hw0⟩ := hk
  subst hlen
  simp only [pwAct1] at ha
  split at ha
  · rename_i n st'
    split at ha
    · rename_i hc
      simp only [pwGo, Option.some.injEq, Sum.inl.injEq] at ha; subst ha
      intro H locs cells slots ls hR hS hL h1 h2
      have hR : pwRW K g w H := hR
      have h1 : cells + k0 = g.2.2.1 := h1
      have h2 : slots + s0 = g.2.2.2 := h2
      obtain ⟨hx, hcc, hr, hml, hown, hts, hlk, hin, htb, hst, hf, hlo, hKB⟩ := id C
      have hsz : H.size = g.1 := hR.2.2.2.2 hc.2
      have hn0 : ¬ n < 0 := Int32.not_lt.mpr hc.1.1
      have hb : n.toNatClampNeg ≤ 65536 := hc.1.2
      dsimp only at hrc hrs
      refine W.anew (C := pwR_X5) hx hcc hown (hts _ (pwIn_mem hw0)) (va_AO.use hKB.2.2.2.2.2.2.2.2.1) rfl d rfl hn0 (by omega) (by omega) (by omega) fun cA kA comp f1 f2 f3 f4 => ?_
      obtain ⟨kA2, comp2, b1, b2, b3, b4⟩ := (hKB.1.2 3 _ rfl).2
      have hcA : cA = K.2.2.1 3 := Option.some.inj (f1.symm.trans b4)
      subst hcA
      generalize hH1 : H.push ({ cls := K.2.2.1 3, slots := Array.replicate n.toNatClampNeg .null, vm := .none } : Cell) = H1
      have z1 : H1.size = H.size + 1 := by rw [← hH1, Array.size_push]
      have e1 : H1[H.size]? = some (arrV (K.2.2.1 3) n.toNatClampNeg (fun _ => .null)) := by rw [← hH1, Array.getElem?_push_size, ← arrV_new]
      have o1 : ∀ q : Nat, q < H.size → H1[q]? = H[q]? := fun q hq => by rw [← hH1, Array.getElem?_push, if_neg (Nat.ne_of_lt hq)]
      rw [hsz] at e1 ⊢
      refine kk H1 locs (cells + 1) (slots + n.toNatClampNeg) ls (hR.new hc.2 rfl (by decide : 3 ≤ 3) ?_ z1 o1) ⟨by have := hS.1; omega, fun z h3 h4 => (o1 z (by have := hS.1; omega)).trans (hS.2.1 z h3 h4), hS.2.2⟩ hL (by dsimp only; omega) (by dsimp only; omega)
      show H1[g.1]? = some (vp_cell _ _)
      rw [vp_cell_q]
      exact e1
    · cases ha
  · cases ha
end PWH

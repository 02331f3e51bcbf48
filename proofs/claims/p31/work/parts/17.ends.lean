/-! ends of a body: returned, thrown; handlers -/
def pwChkH (mt : pwMT) : Bool := mt.2.2.2.1.all fun h => decide (mt.1.1 = pwR_L) && (Nat.beq h.2.2.2 15 || Nat.beq h.2.2.2 19 || Nat.beq h.2.2.2 34)
theorem pwHs : (pwMs.all fun l9 => l9.all pwChkH) = true := by decide +kernel
theorem pwAllH {mi : Nat} {mt : pwMT} (h : pwMeth mi = some mt) : pwChkH mt = true := by
  obtain ⟨l9, h1, h2⟩ := pwMeth_at h
  exact List.all_eq_true.mp (List.all_eq_true.mp pwHs l9 (List.mem_of_getElem? h1)) mt (List.mem_of_getElem? h2)
theorem pwIn_h13 : Jvm.Cond.classLink pwR_L 15 "java/lang/IllegalArgumentException" ∈ pwGw := by decide +kernel
theorem pwIn_h15 : Jvm.Cond.classLink pwR_L 19 "java/lang/IllegalStateException" ∈ pwGw := by decide +kernel
theorem pwIn_h28 : Jvm.Cond.classLink pwR_L 34 "java/lang/IndexOutOfBoundsException" ∈ pwGw := by decide +kernel
theorem pwIn_c0 : Jvm.Cond.castable "java/lang/IllegalArgumentException" "java/lang/IllegalArgumentException" ∈ lw_tbl := by decide +kernel
theorem pwIn_c1 : Jvm.Cond.castable "java/lang/IllegalStateException" "java/lang/IllegalStateException" ∈ lw_tbl := by decide +kernel
theorem pwIn_c2 : Jvm.Cond.castable "java/lang/IndexOutOfBoundsException" "java/lang/IndexOutOfBoundsException" ∈ lw_tbl := by decide +kernel
theorem pwIn_i0 : Jvm.Cond.initialized "java/lang/IllegalArgumentException" ∈ pwGw := by decide +kernel
theorem pwIn_i1 : Jvm.Cond.initialized "java/lang/IllegalStateException" ∈ pwGw := by decide +kernel
theorem pwIn_i2 : Jvm.Cond.initialized "java/lang/IndexOutOfBoundsException" ∈ pwGw := by decide +kernel
theorem pwAt_0 : ∀ wz ∈ (vx_atS pwR_X7 54 "java/lang/IllegalArgumentException" pwExR).filter goodWord, wz ∈ lw_tbl := by decide +kernel
theorem pwAt_1 : ∀ wz ∈ (vx_atS pwR_X7 65 "java/lang/IllegalStateException" pwExR).filter goodWord, wz ∈ lw_tbl := by decide +kernel
theorem pwAt_2 : ∀ wz ∈ (vx_atS pwR_X7 117 "java/lang/IndexOutOfBoundsException" pwExR).filter goodWord, wz ∈ lw_tbl := by decide +kernel
def pwNwk : Jvm.Cond → Bool
  | .castable _ _ => true
  | .declares _ => true
  | _ => false
theorem pwAu_0 : ∀ wz ∈ (vx_atS pwR_X7 54 "java/lang/IllegalArgumentException" pwExR).filter (fun q => !goodWord q), wz ∈ lw_tbl ∧ pwNwk wz = true := by decide +kernel
theorem pwAu_1 : ∀ wz ∈ (vx_atS pwR_X7 65 "java/lang/IllegalStateException" pwExR).filter (fun q => !goodWord q), wz ∈ lw_tbl ∧ pwNwk wz = true := by decide +kernel
theorem pwAu_2 : ∀ wz ∈ (vx_atS pwR_X7 117 "java/lang/IndexOutOfBoundsException" pwExR).filter (fun q => !goodWord q), wz ∈ lw_tbl ∧ pwNwk wz = true := by decide +kernel
theorem pwAg_0 : (vx_atS pwR_X7 54 "java/lang/IllegalArgumentException" pwExR).all vx_ot = true := by decide +kernel
theorem pwAg_1 : (vx_atS pwR_X7 65 "java/lang/IllegalStateException" pwExR).all vx_ot = true := by decide +kernel
theorem pwAg_2 : (vx_atS pwR_X7 117 "java/lang/IndexOutOfBoundsException" pwExR).all vx_ot = true := by decide +kernel
/-- what a throw owes of its class -/
def pwExF (k : Nat) (E : String) (ic : Nat) : Prop := pwEx[k]? = some E ∧ pwExN[k]? = some ic ∧ Bundle.fit E = true ∧ Jvm.Cond.initialized E ∈ pwGw ∧ (∀ wz ∈ (vx_atS pwR_X7 ic E pwExR).filter goodWord, wz ∈ lw_tbl) ∧ (∀ wz ∈ (vx_atS pwR_X7 ic E pwExR).filter (fun q => !goodWord q), wz ∈ lw_tbl ∧ pwNwk wz = true) ∧ (vx_atS pwR_X7 ic E pwExR).all vx_ot = true ∧ Jvm.Cond.castable E E ∈ lw_tbl
theorem pwExOk {k : Nat} {E : String} {ic : Nat} (h1 : pwEx[k]? = some E) (h2 : pwExN[k]? = some ic) : pwExF k E ic := by
  match k, h1, h2 with
  | 0, h1, h2 => cases h1; cases h2; exact ⟨rfl, rfl, by decide +kernel, pwIn_i0, pwAt_0, pwAu_0, pwAg_0, pwIn_c0⟩
  | 1, h1, h2 => cases h1; cases h2; exact ⟨rfl, rfl, by decide +kernel, pwIn_i1, pwAt_1, pwAu_1, pwAg_1, pwIn_c1⟩
  | 2, h1, h2 => cases h1; cases h2; exact ⟨rfl, rfl, by decide +kernel, pwIn_i2, pwAt_2, pwAu_2, pwAg_2, pwIn_c2⟩
  | k9 + 3, h1, _ => cases h1
theorem pwExR_fit : ∀ nm ∈ pwExR, Bundle.fit nm = true := by decide +kernel
section PWE
variable {K : pwKK} {p : Program} {l : Launch} {e : Env} {R : Room} {s : State} {m : MethodId} {args : Array Value} {below : List Frame} {meth : Method} {c : Code} {k0 s0 : Nat} {mt : pwMT} {pc len mi : Nat} {r : pwRP} {L : pwLL} {st : List Value} {g : pwG} {w : pwW} {o : pwO}
abbrev pwQQ (K : pwKK) (below : List Frame) (args : Array Value) (s : State) (o : pwO) (k0 s0 : Nat) : State → Prop := vx_MQ below (pwQ K o) (pwXC K o) args s (o.2.1.2.2.1 - k0) (o.2.1.2.2.2 - s0) (pwA K.1)
theorem pwI_thr {i : Nat} (hrc : o.2.1.2.2.1 ≤ R.cells + k0) (hrs : o.2.1.2.2.2 ≤ R.slots + s0) (C : pwCx K p l R s m args meth c mt) (d : decode mt.1.2.2 pc = .ok (.new i, len)) (hk : pwChkL mt pc (.new i) len r = true) (ha : pwAct1 (.new i) len r mi pc L st g w = some (.inr (.inl o))) : pwV K p l e R s m args below meth c (pwQQ K below args s o k0 s0) k0 s0 mt (pc, L, st, g, w) := by
  simp only [pwAct1] at ha
  cases hb : Nat.ble 100 r.1 with
  | false =>
    rw [hb, cond_false] at ha
    obtain ⟨fs, hfs, ha⟩ := Option.bind_eq_some_iff.mp ha
    split at ha
    · simp only [pwGo, Option.some.injEq, reduceCtorEq] at ha
    · cases ha
  | true =>
    rw [hb, cond_true] at ha
    cases hb2 : Nat.beq (pwCats st) 0 with
    | false => rw [hb2] at ha; cases ha
    | true =>
      rw [hb2] at ha
      simp only [cond_true, pwThr, Option.some.injEq, Sum.inr.injEq, Sum.inl.injEq] at ha
      subst ha
      have hst0 : pwCats st = 0 := Nat.eq_of_beq_eq_true hb2
      simp only [pwChkL, Bool.and_eq_true, Nat.beq_eq, hb, cond_true] at hk
      obtain ⟨hlen, hk⟩ := hk
      subst hlen
      split at hk
      · rename_i E ic is ps ic2 z9 hE hic hls
        simp only [Bool.and_eq_true, decide_eq_true_eq] at hk
        obtain ⟨⟨⟨⟨⟨ho1, ho2, ho3⟩, hw1⟩, hw2⟩, hw3⟩, hw4⟩ := hk
        split at hw4
        · rename_i o9 k9 tx hps
          obtain ⟨t1, t2, t3, t4⟩ := of_decide_eq_true hw4
          obtain ⟨x1, x2, x3, x4, x5, x6, x7, x8⟩ := pwExOk hE hic
          intro H locs cells slots ls hR hS hL h1 h2
          have hR : pwRW K g w H := hR
          have h1 : cells + k0 = g.2.2.1 := h1
          have h2 : slots + s0 = g.2.2.2 := h2
          obtain ⟨hx, hcc, hr, hml, hown, hts, hlk, hin, htb, hst, hf, hlo, hKB⟩ := id C
          have hKB2 := hKB
          obtain ⟨b1, b2, b3, b4, ⟨b5, b6⟩, b7, b8, b9, b10, b11, b12⟩ := hKB2
          have hmem : Jvm.Cond.stringRef mt.1.1 k9 tx ∈ lw_tbl := by rw [← t1]; exact pwTb_mem hps
          obtain ⟨sa, hsa⟩ := b7 _ _ _ hmem
          have hk2 : 6 ≤ mt.2.2.1.1 := Nat.le_of_ble_eq_true hw2
          have hk3 : 90 ≤ mt.2.2.1.2.1 := Nat.le_of_ble_eq_true hw3
          have hts9 : ∀ wz ∈ vx_atS mt.1.1 ic E pwExR, wz.before args s = true := by
            rw [ho1]
            intro wz hz
            by_cases gz : goodWord wz = true
            · exact hts _ (List.mem_filter.mpr ⟨x5 wz (List.mem_filter.mpr ⟨hz, gz⟩), gz⟩)
            · obtain ⟨y1, y2⟩ := x6 wz (List.mem_filter.mpr ⟨hz, by simp [gz]⟩)
              unfold pwNwk at y2
              split at y2
              · exact va_Nw.use rfl (b9 _ _ y1)
              · exact va_Nw.use rfl (b12 _ y1)
              · cases y2
          have hgd : ∀ wz ∈ Jvm.Cond.classLink mt.1.1 i E :: Jvm.Cond.initialized E :: vx_atS mt.1.1 ic E pwExR, vx_ot wz = true := by
            rw [ho1]
            intro wz hz
            rcases List.mem_cons.mp hz with rfl | hz
            · rfl
            rcases List.mem_cons.mp hz with rfl | hz
            · rfl
            exact List.all_eq_true.mp x7 wz hz
          have hsum : (st.map fun v => v.category).sum = 0 := hst0
          have hno : ∀ (pc9 : Nat), ∀ x9 ∈ c.exceptionTable.toList, covers x9 pc9 = false := by
            rw [htb, ho3]
            intro pc9 x9 hx9
            cases hx9
          have hxc : ∀ t : State, s.vm.Alike t.vm → H.size ≤ t.heap.size → (∀ q : Nat, q < H.size → t.heap[q]? = H[q]?) → pwXC K (.inr (r.1 - 100), (g.1, g.2.1 + 1, g.2.2.1 + 1, g.2.2.2 + 6), w) E s t := by
            intro t _ z1 z2
            obtain ⟨e1, e2, e3, e4, e5⟩ := hR
            refine ⟨⟨r.1 - 100, rfl, hE, fun a9 ha9 => ?_, e2, e3, Nat.le_trans e4 z1, fun q => by cases q⟩, ?_⟩
            · obtain ⟨y1, y2, y3⟩ := e1 a9 ha9
              exact ⟨y1, y2, y3.kept (z2 _ (Nat.lt_of_lt_of_le y2 e4))⟩
            · exact ⟨Nat.le_trans hS.1 z1, fun q y1 y2 => (z2 q (Nat.lt_of_lt_of_le y1 hS.1)).trans (hS.2.1 q y1 y2)⟩
          dsimp only at hrc hrs
          rcases t4 with ⟨u1, u2, u3, u4⟩ | ⟨u1, u2, u3, u4⟩
          · refine vx_throwS (mc := _) (ms := _) (names := pwExR) (sa := sa) (A := pwA K.1) hx hcc hst hown x3 pwExR_fit (hts _ (pwIn_mem hw1)) (hts _ x4) hsa hts9 hgd b5 b6 hS (hL.1.trans hml.symm) d t3 u1 u2 u3 (hno _) ?_ ?_ ?_ ?_ hlk hxc hS.2.2 ?_ ?_
            · show 2 + 3 < R.frames; omega
            · rw [hsum]; show 0 + (13 * (2 + 1) + 43) ≤ R.locals; omega
            · omega
            · omega
            · dsimp only; omega
            · dsimp only; omega
          · refine vx_throwSW (mc := _) (ms := _) (names := pwExR) (sa := sa) (A := pwA K.1) hx hcc hst hown x3 pwExR_fit (hts _ (pwIn_mem hw1)) (hts _ x4) hsa hts9 hgd b5 b6 hS (hL.1.trans hml.symm) d t3 u1 u2 u3 (hno _) ?_ ?_ ?_ ?_ hlk hxc hS.2.2 ?_ ?_
            · show 2 + 3 < R.frames; omega
            · rw [hsum]; show 0 + (13 * (2 + 1) + 43) ≤ R.locals; omega
            · omega
            · omega
            · dsimp only; omega
            · dsimp only; omega
        · cases hw4
      · cases hk
theorem pwRq {v : Option Value} {H : Heap} {locs : List Loc} (hR : pwRW K g w H) (hS : va_S (pwA K.1) s.heap H locs) {oc : Outcome} (ho : oc = .returned v) : ∀ t : State, t.heap = H → s.WarmedH t.vm → pwQ K (.inl v, g, w) args s oc t := fun t ht _ => ⟨⟨v, rfl, ho, by rw [ht]; exact hR⟩, hS.F ht⟩
theorem pwI_ireturn (C : pwCx K p l R s m args meth c mt) (hm : pwMeth mi = some mt) (d : decode mt.1.2.2 pc = .ok (.ireturn, len)) (hk : pwChkL mt pc .ireturn len r = true) (ha : pwAct1 .ireturn len r mi pc L st g w = some (.inr (.inl o))) : pwV K p l e R s m args below meth c (pwQQ K below args s o k0 s0) k0 s0 mt (pc, L, st, g, w) := by
  have hlen : len = 1 := by simpa [pwChkL] using hk
  subst hlen
  simp only [pwAct1, hm, Option.bind_some] at ha
  split at ha
  · rename_i v
    split at ha
    · rename_i hret
      simp only [pwRet, Option.some.injEq, Sum.inr.injEq, Sum.inl.injEq] at ha
      subst ha
      intro H locs cells slots ls hR hS hL h1 h2
      have h1 : cells + k0 = g.2.2.1 := h1
      have h2 : slots + s0 = g.2.2.2 := h2
      have e1 : g.2.2.1 - k0 = cells := by omega
      have e2 : g.2.2.2 - s0 = slots := by omega
      unfold pwQQ
      dsimp only
      rw [e1, e2]
      exact vx_ret (W.iret C.1 C.2.1 (C.2.2.1.trans hret) (pwRq hR hS rfl) hS.2.2 d C.2.2.2.2.2.2.1)
    · rename_i hret
      cases hb : (v == 0 || v == 1) with
      | false => rw [hb] at ha; cases ha
      | true =>
        rw [hb, cond_true] at ha
        simp only [pwRet, Option.some.injEq, Sum.inr.injEq, Sum.inl.injEq] at ha
        subst ha
        intro H locs cells slots ls hR hS hL h1 h2
        have h1 : cells + k0 = g.2.2.1 := h1
        have h2 : slots + s0 = g.2.2.2 := h2
        have e1 : g.2.2.1 - k0 = cells := by omega
        have e2 : g.2.2.2 - s0 = slots := by omega
        unfold pwQQ
        dsimp only
        rw [e1, e2]
        have hn : narrow .boolean (.int v) = .int v := by
          simp only [Bool.or_eq_true, beq_iff_eq] at hb
          rcases hb with rfl | rfl <;> rfl
        exact vx_ret (W.zret C.1 C.2.1 (C.2.2.1.trans hret) hn (pwRq hR hS rfl) hS.2.2 d C.2.2.2.2.2.2.1)
    · cases ha
  · cases ha
theorem pwI_lreturn (C : pwCx K p l R s m args meth c mt) (hm : pwMeth mi = some mt) (d : decode mt.1.2.2 pc = .ok (.lreturn, len)) (hk : pwChkL mt pc .lreturn len r = true) (ha : pwAct1 .lreturn len r mi pc L st g w = some (.inr (.inl o))) : pwV K p l e R s m args below meth c (pwQQ K below args s o k0 s0) k0 s0 mt (pc, L, st, g, w) := by
  have hlen : len = 1 := by simpa [pwChkL] using hk
  subst hlen
  simp only [pwAct1, hm, Option.bind_some] at ha
  split at ha
  · rename_i v
    split at ha
    · rename_i hret
      simp only [pwRet, Option.some.injEq, Sum.inr.injEq, Sum.inl.injEq] at ha
      subst ha
      intro H locs cells slots ls hR hS hL h1 h2
      have h1 : cells + k0 = g.2.2.1 := h1
      have h2 : slots + s0 = g.2.2.2 := h2
      have e1 : g.2.2.1 - k0 = cells := by omega
      have e2 : g.2.2.2 - s0 = slots := by omega
      unfold pwQQ
      dsimp only
      rw [e1, e2]
      exact vx_ret (W.lret C.1 C.2.1 (C.2.2.1.trans hret) (pwRq hR hS rfl) hS.2.2 d C.2.2.2.2.2.2.1)
    · cases ha
  · cases ha
theorem pwI_areturn (C : pwCx K p l R s m args meth c mt) (hm : pwMeth mi = some mt) (d : decode mt.1.2.2 pc = .ok (.areturn, len)) (hk : pwChkL mt pc .areturn len r = true) (ha : pwAct1 .areturn len r mi pc L st g w = some (.inr (.inl o))) : pwV K p l e R s m args below meth c (pwQQ K below args s o k0 s0) k0 s0 mt (pc, L, st, g, w) := by
  have hlen : len = 1 := by simpa [pwChkL] using hk
  subst hlen
  simp only [pwAct1, hm, Option.bind_some] at ha
  split at ha
  · rename_i v
    split at ha
    · rename_i nm hret
      simp only [pwRet, Option.some.injEq, Sum.inr.injEq, Sum.inl.injEq] at ha
      subst ha
      intro H locs cells slots ls hR hS hL h1 h2
      have h1 : cells + k0 = g.2.2.1 := h1
      have h2 : slots + s0 = g.2.2.2 := h2
      have e1 : g.2.2.1 - k0 = cells := by omega
      have e2 : g.2.2.2 - s0 = slots := by omega
      unfold pwQQ
      dsimp only
      rw [e1, e2]
      exact vx_ret (W.aret C.1 C.2.1 (C.2.2.1.trans hret) (Or.inl ⟨_, rfl⟩) (Or.inr ⟨_, rfl⟩) (pwRq hR hS rfl) hS.2.2 d C.2.2.2.2.2.2.1)
    · rename_i nm hret
      simp only [pwRet, Option.some.injEq, Sum.inr.injEq, Sum.inl.injEq] at ha
      subst ha
      intro H locs cells slots ls hR hS hL h1 h2
      have h1 : cells + k0 = g.2.2.1 := h1
      have h2 : slots + s0 = g.2.2.2 := h2
      have e1 : g.2.2.1 - k0 = cells := by omega
      have e2 : g.2.2.2 - s0 = slots := by omega
      unfold pwQQ
      dsimp only
      rw [e1, e2]
      exact vx_ret (W.aret C.1 C.2.1 (C.2.2.1.trans hret) (Or.inr ⟨_, rfl⟩) (Or.inr ⟨_, rfl⟩) (pwRq hR hS rfl) hS.2.2 d C.2.2.2.2.2.2.1)
    · cases ha
  · cases ha
theorem pwI_return (C : pwCx K p l R s m args meth c mt) (hm : pwMeth mi = some mt) (d : decode mt.1.2.2 pc = .ok (.return_, len)) (hk : pwChkL mt pc .return_ len r = true) (ha : pwAct1 .return_ len r mi pc L st g w = some (.inr (.inl o))) : pwV K p l e R s m args below meth c (pwQQ K below args s o k0 s0) k0 s0 mt (pc, L, st, g, w) := by
  have hlen : len = 1 := by simpa [pwChkL] using hk
  subst hlen
  simp only [pwAct1, hm, Option.bind_some] at ha
  split at ha
  · split at ha
    · rename_i hret
      simp only [pwRet, Option.some.injEq, Sum.inr.injEq, Sum.inl.injEq] at ha
      subst ha
      intro H locs cells slots ls hR hS hL h1 h2
      have h1 : cells + k0 = g.2.2.1 := h1
      have h2 : slots + s0 = g.2.2.2 := h2
      have e1 : g.2.2.1 - k0 = cells := by omega
      have e2 : g.2.2.2 - s0 = slots := by omega
      unfold pwQQ
      dsimp only
      rw [e1, e2]
      exact vx_ret (W.vret C.1 C.2.1 (C.2.2.1.trans hret) (pwRq hR hS rfl) hS.2.2 d C.2.2.2.2.2.2.1)
    · cases ha
  · cases ha
end PWE

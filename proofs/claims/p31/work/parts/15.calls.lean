/-! calls and ends -/
def pwHead (mt : pwMT) : Jvm.Cond := match mt.2.2.2.1 with
  | [] => .code mt.1.2.1 mt.1.2.2 mt.2.1.1 mt.2.1.2.1
  | hh => .codeWith mt.1.2.1 mt.1.2.2 mt.2.1.1 mt.2.1.2.1 hh
def pwWs (mt : pwMT) : List Jvm.Cond := pwHead mt :: pwGw
def pwQ (K : pwKK) (o : pwO) : Array Value → State → Outcome → State → Prop := fun _ st oc t => (∃ v : Option Value, o.1 = .inl v ∧ oc = .returned v ∧ pwRW K o.2.1 o.2.2 t.heap) ∧ va_F (pwA K.1) st t
def pwXC (K : pwKK) (o : pwO) : String → State → State → Prop := fun E st t => (∃ k : Nat, o.1 = .inr k ∧ pwEx[k]? = some E ∧ pwRW K o.2.1 o.2.2 t.heap) ∧ va_F (pwA K.1) st t
def pwMc (g : pwG) (o : pwO) : Nat := o.2.1.2.2.1 - g.2.2.1
def pwMs' (g : pwG) (o : pwO) : Nat := o.2.1.2.2.2 - g.2.2.2
def pwRm (mt : pwMT) (g : pwG) (o : pwO) : Room := { frames := mt.2.2.1.1, cells := pwMc g o, slots := pwMs' g o, locals := mt.2.2.1.2.1 }
def pwPre (K : pwKK) (As : List Value) (g : pwG) (w : pwW) : Array Value → State → Prop := va_Pc As (fun U => pwRW K g w U.heap ∧ pwKB K U)
/-- what a callee owes -/
def pwMet (K : pwKK) (l : Launch) (mt : pwMT) (As : List Value) (g : pwG) (w : pwW) (o : pwO) : Prop :=
  vx_Met l mt.1.2.1 (pwWs mt) (pwRm mt g o) (pwPre K As g w) (pwQ K o) (pwXC K o) (pwMc g o) (pwMs' g o) (pwA K.1)
theorem pwPre_blind (K : pwKK) (As : List Value) (g : pwG) (w : pwW) : FrameBlind (pwPre K As g w) := fun a U gf mk h => ⟨h.1, h.2.1, pwKB.next h.2.2 va_S.rf (State.WarmedH.refl U) rfl⟩
theorem pwChkM_d {mt : pwMT} {q : Nat × Nat × Nat × Nat × Nat} (h : pwChkM mt q = true) : plainName mt.1.2.1.cls = true ∧ (mt.1.2.1.cls = mt.1.1 ∧ mt.1.1 ≠ "java/lang/invoke/MethodHandle" ∧ mt.1.1 ≠ "java/lang/invoke/VarHandle" ∧ (parseMethodDescriptor mt.1.2.1.desc).map (fun d => d.parameters.length) = some mt.2.1.2.2) ∧ pwHead mt ∈ pwGw ∧ Jvm.Cond.initialized mt.1.1 ∈ pwGw ∧ (q.1 = 0 → Jvm.Cond.static mt.1.2.1 ∈ pwGw) ∧ (q.1 ≠ 0 → Jvm.Cond.instanceMethod mt.1.2.1 ∈ pwGw ∧ (pwCl[mt.2.2.1.2.2]?).map (fun c => c.1) = some mt.1.1 ∧ (q.1 = 1 → Jvm.Cond.selects mt.1.1 mt.1.2.1 mt.1.2.1 ∈ pwGw)) := by
  simp only [pwChkM, Bool.and_eq_true, decide_eq_true_eq] at h
  obtain ⟨⟨⟨⟨h1, h2⟩, h3⟩, h4⟩, h5⟩ := h
  refine ⟨h1, h2, ?_, pwIn_mem h4, fun e0 => ?_, fun e0 => ?_⟩
  · unfold pwHead
    split at h3
    · rename_i e1; rw [e1]; exact pwIn_mem h3
    · rename_i e1
      split
      · rename_i e2; exact absurd e2 e1
      · exact pwIn_mem h3
  · rw [e0] at h5
    exact pwIn_mem h5
  · have e2 : Nat.beq q.1 0 = false := by
      cases hb : Nat.beq q.1 0 with
      | false => rfl
      | true => exact absurd (Nat.eq_of_beq_eq_true hb) e0
    rw [e2] at h5
    simp only [cond_false, Bool.and_eq_true, decide_eq_true_eq] at h5
    refine ⟨pwIn_mem h5.1.1, h5.1.2, fun e3 => ?_⟩
    have h6 := h5.2
    rw [e3] at h6
    exact pwIn_mem h6
theorem pwGood_gw : GoodIn pwGw pwGw := fun w hw => ⟨hw, good_of_word (List.mem_filter.mp hw).2⟩
theorem pwGood_ws {mt : pwMT} (h : pwHead mt ∈ pwGw) : GoodIn pwGw (pwWs mt) := fun w hw => by
  rcases List.mem_cons.mp hw with e9 | e9
  · subst e9; exact pwGood_gw _ h
  · exact pwGood_gw _ e9
section PWC
variable {K : pwKK} {p : Program} {l : Launch} {e : Env} {R : Room} {s : State} {m : MethodId} {args : Array Value} {below : List Frame} {meth : Method} {c : Code} {Q : State → Prop} {k0 s0 : Nat} {mt mc : pwMT} {pc len mi : Nat} {r : pwRP} {L : pwLL} {st rest : List Value} {g : pwG} {w : pwW} {o : pwO} {H : Heap} {locs : List Loc} {cells slots : Nat} {ls : Array Slot}
theorem pwCx.kb (C : pwCx K p l R s m args meth c mt) : pwKB K s := C.2.2.2.2.2.2.2.2.2.2.2.2
theorem pwCx.fr (C : pwCx K p l R s m args meth c mt) : mt.2.2.1.1 ≤ R.frames := C.2.2.2.2.2.2.2.2.2.2.1
theorem pwCx.lo (C : pwCx K p l R s m args meth c mt) : mt.2.2.1.2.1 ≤ R.locals := C.2.2.2.2.2.2.2.2.2.2.2.1
/-- from a call's run on -/
theorem pwRunW {mc9 ms9 : Nat} {a9 : Array Value} (hr : vx_Run p l e R s m args below meth c H locs cells slots mc9 ms9 (F0 m pc ls st) rest (pwQ K o a9) (pwXC K o) (pwA K.1)) (hS : va_S (pwA K.1) s.heap H locs)
    (kv : ∀ v : Option Value, o.1 = .inl v → ∀ (H1 : Heap) (locs1 : List Loc), pwRW K o.2.1 o.2.2 H1 → va_S (pwA K.1) s.heap H1 locs1 → W p l e R s m args below meth c H1 locs1 (cells + mc9) (slots + ms9) Q (F0 m (pc + 3) ls (v.toList ++ rest)))
    (kx : ∀ (k : Nat) (E : String) (q : Addr) (ce : Cell), o.1 = .inr k → pwEx[k]? = some E → ∀ (H1 : Heap) (locs1 : List Loc), pwRW K o.2.1 o.2.2 H1 → va_S (pwA K.1) s.heap H1 locs1 → H1[q]? = some ce → ce.vm = .none → s.vm.findClass E = some ce.cls → vx_W p l e R s m args below meth c H1 locs1 (cells + mc9) (slots + ms9) Q (F0 m pc ls rest) q) :
    W p l e R s m args below meth c H locs cells slots Q (F0 m pc ls st) := by
  intro T hT X
  rcases hr T hT X with ⟨v, st₀, t, T', L9, h0, X', hL9, e1, e2, ⟨⟨v', hv1, hv2, hv3⟩, hF⟩, stp⟩ | ⟨q, st₀, t, T', L9, E, ce, h0, X', hL9, e1, e2, ⟨⟨k, hv1, hv2, hv3⟩, hF⟩, hce, hcv, hcl, stp⟩
  · cases hv2
    obtain ⟨k1, k2, k3⟩ := vx_keep h0 e1 hS (fun q _ h => h) (fun q h => h) hL9 hF
    obtain ⟨t2, a1, b1⟩ := kv v hv1 T'.heap (locs ++ L9) (by rw [e1]; exact hv3) k3 T' rfl X'
    exact ⟨t2, stp t2 a1, b1⟩
  · obtain ⟨k1, k2, k3⟩ := vx_keep h0 e1 hS (fun q _ h => h) (fun q h => h) hL9 hF
    obtain ⟨t2, a1, b1⟩ := kx k E q ce hv1 hv2 T'.heap (locs ++ L9) (by rw [e1]; exact hv3) k3 (by rw [e1]; exact hce) hcv hcl T' rfl X'
    exact ⟨t2, stp.trans a1, b1⟩
theorem pwPre_at {As : List Value} (C : pwCx K p l R s m args meth c mt) (hR : pwRW K g w H) (hS : va_S (pwA K.1) s.heap H locs) : ∀ U : State, U.heap = H → s.WarmedH U.vm → pwPre K As g w As.toArray U := fun U hU hW => ⟨rfl, by rw [hU]; exact hR, pwKB.next C.kb hS hW hU⟩
theorem pwRoom_d (h : pwRoom mt mc = true) (C : pwCx K p l R s m args meth c mt) : (pwRm mc g o).frames + 1 ≤ R.frames ∧ 8 + (mc.2.1.1 + 11) + (pwRm mc g o).locals ≤ R.locals := by
  simp only [pwRoom, Bool.and_eq_true] at h
  exact ⟨Nat.le_trans (Nat.le_of_ble_eq_true h.1) C.fr, Nat.le_trans (Nat.le_of_ble_eq_true h.2) C.lo⟩
theorem pwLink_d {own : String} {i : Nat} {y : MethodName} (h : pwLink own i y r = true) : Jvm.Cond.methodLink own i y ∈ pwGw ∨ Jvm.Cond.methodLinkNest own i y "PlacardWalkers" ∈ lw_tbl := by
  unfold pwLink at h
  cases hb : Nat.beq r.2.1 0 with
  | true => rw [hb] at h; exact Or.inl (pwIn_mem h)
  | false => rw [hb] at h; exact Or.inr (pwIn0_mem h)
theorem pwCB {i : Nat} {q : Nat × Nat × Nat × Nat × Nat} (C : pwCx K p l R s m args meth c mt) (hq : pwChkM mc q = true) (hh : mc.2.2.2.1 = []) (hlink : Jvm.Cond.methodLink mt.1.1 i mc.1.2.1 ∈ pwGw) (hroom : pwRoom mt mc = true) : CallB R s args mt.1.1 i mc.1.2.1 mc.1.2.2 mc.2.1.1 mc.2.1.2.1 (pwWs mc) (pwRm mc g o) (pwMc g o) (pwMs' g o) mc.2.1.2.2 := by
  obtain ⟨h1, ⟨h2, h3, h4, h5⟩, h6, h7, h8, h9⟩ := pwChkM_d hq
  have hts := C.2.2.2.2.2.1
  have hhd : pwHead mc = .code mc.1.2.1 mc.1.2.2 mc.2.1.1 mc.2.1.2.1 := by unfold pwHead; rw [hh]
  exact callB_of (Ts := pwGw) (ws' := pwGw) mc.2.1.2.2 hts (pwGood_ws h6) (by unfold pwWs; rw [hhd]) rfl rfl (by rw [h2]; exact hts _ h7) (hts _ hlink) ⟨by rw [h2]; exact h3, by rw [h2]; exact h4, h5⟩ (pwRoom_d hroom C)
theorem pwCN {i : Nat} {q : Nat × Nat × Nat × Nat × Nat} (C : pwCx K p l R s m args meth c mt) (hq : pwChkM mc q = true) (hh : mc.2.2.2.1 = []) (hlink : Jvm.Cond.methodLinkNest mt.1.1 i mc.1.2.1 "PlacardWalkers" ∈ lw_tbl) (hroom : pwRoom mt mc = true) : va_CN R s args mt.1.1 i mc.1.2.1 "PlacardWalkers" mc.1.2.2 mc.2.1.1 mc.2.1.2.1 (pwWs mc) (pwRm mc g o) (pwMc g o) (pwMs' g o) mc.2.1.2.2 := by
  obtain ⟨h1, ⟨h2, h3, h4, h5⟩, h6, h7, h8, h9⟩ := pwChkM_d hq
  have hts := C.2.2.2.2.2.1
  have hhd : pwHead mc = .code mc.1.2.1 mc.1.2.2 mc.2.1.1 mc.2.1.2.1 := by unfold pwHead; rw [hh]
  exact va_cnB (Ts := pwGw) (ws' := pwGw) mc.2.1.2.2 hts (pwGood_ws h6) (by unfold pwWs; rw [hhd]) rfl rfl (C.kb.2.2.2.2.2.2.1 _ _ _ _ hlink) (by rw [h2]; exact hts _ h7) ⟨by rw [h2]; exact h3, by rw [h2]; exact h4, h5⟩ (pwRoom_d hroom C)
theorem pwCSW {i : Nat} {q : Nat × Nat × Nat × Nat × Nat} {h0 : Nat × Nat × Nat × Nat} {hs : List (Nat × Nat × Nat × Nat)} (C : pwCx K p l R s m args meth c mt) (hq : pwChkM mc q = true) (hk : q.1 = 0) (hh : mc.2.2.2.1 = h0 :: hs) (hlink : Jvm.Cond.methodLink mt.1.1 i mc.1.2.1 ∈ pwGw) (hroom : pwRoom mt mc = true) : vx_CSW R s args mt.1.1 i mc.1.2.1 mc.1.2.2 mc.2.1.1 mc.2.1.2.1 (h0 :: hs) (pwWs mc) (pwRm mc g o) (pwMc g o) (pwMs' g o) mc.2.1.2.2 := by
  obtain ⟨h1, ⟨h2, h3, h4, h5⟩, h6, h7, h8, h9⟩ := pwChkM_d hq
  have hts := C.2.2.2.2.2.1
  have hhd : pwHead mc = .codeWith mc.1.2.1 mc.1.2.2 mc.2.1.1 mc.2.1.2.1 (h0 :: hs) := by unfold pwHead; rw [hh]
  refine vx_cwSW (Ts := pwGw) (ws' := pwGw) mc.2.1.2.2 hts ?_ (by unfold pwWs; rw [hhd]) rfl rfl ⟨by rw [h2]; exact h3, by rw [h2]; exact h4, h5⟩ (pwRoom_d hroom C)
  intro wz hwz
  rcases List.mem_append.mp hwz with hz | hz
  · simp only [List.mem_cons, List.not_mem_nil, or_false] at hz
    rcases hz with rfl | rfl | rfl
    · exact pwGood_gw _ hlink
    · exact pwGood_gw _ (h8 hk)
    · exact pwGood_gw _ (by rw [h2]; exact h7)
  · exact pwGood_ws h6 _ hz
theorem pwFix (C : pwCx K p l R s m args meth c mt) : CallFix p m c mt.1.2.2 mt.2.1.1 s args pwGw mt.1.1 := ⟨C.1, C.2.1, C.2.2.2.1, C.2.2.2.2.1, C.2.2.2.2.2.1⟩
/-- a static call's run -/
theorem pwRunS {i : Nat} {As : List Value} {q : Nat × Nat × Nat × Nat × Nat} (C : pwCx K p l R s m args meth c mt) (hq : pwChkM mc q = true) (hk : q.1 = 0) (hM : pwMet K l mc As g w o) (hlink : pwLink mt.1.1 i mc.1.2.1 r = true) (hnest : mc.2.2.2.1 ≠ [] → Jvm.Cond.methodLink mt.1.1 i mc.1.2.1 ∈ pwGw) (hroom : pwRoom mt mc = true) (hR : pwRW K g w H) (hS : va_S (pwA K.1) s.heap H locs) (hn : As.length = mc.2.1.2.2) (hls : ls.size = mt.2.1.1) (hst : st = As.reverse ++ rest) (hW : pwCats rest ≤ 8) (d : decode mt.1.2.2 pc = .ok (.invokestatic i, 3)) (hc : cells + pwMc g o ≤ R.cells) (hs : slots + pwMs' g o ≤ R.slots) :
    vx_Run p l e R s m args below meth c H locs cells slots (pwMc g o) (pwMs' g o) (F0 m pc ls st) rest (pwQ K o As.toArray) (pwXC K o) (pwA K.1) := by
  obtain ⟨h1, ⟨h2, h3, h4, h5⟩, h6, h7, h8, h9⟩ := pwChkM_d hq
  have hts := C.2.2.2.2.2.1
  have hp : PreS s H (pwPre K As g w) As := ⟨pwPre_blind K As g w, pwPre_at C hR hS⟩
  cases hh : mc.2.2.2.1 with
  | nil =>
    rcases pwLink_d hlink with hl | hl
    · exact vx_runS (pwFix C) hM ⟨pwCB C hq hh hl hroom, hts _ (h8 hk)⟩ hp rfl hn hls hst (lv_room hW) d ⟨hc, hs⟩
    · exact vx_runSN (pwFix C) hM ⟨pwCN C hq hh hl hroom, hts _ (h8 hk), trivial⟩ hp rfl hn hls hst (lv_room hW) d ⟨hc, hs⟩
  | cons z zs =>
    exact vx_runSX (pwFix C) hM (pwCSW C hq hk hh (hnest (by rw [hh]; exact List.cons_ne_nil _ _)) hroom) hp rfl hn hls hst (lv_room hW) d ⟨hc, hs⟩
theorem pwRecv {b ci : Nat} {q : vw_C} (C : pwCx K p l R s m args meth c mt) (hR : pwRW K g w H) (hI : pwIsC w b ci = true) (hq : pwCl[ci]? = some q) : ∃ cellB : Cell, H[b]? = some cellB ∧ cellB.vm.isStatics = false ∧ s.vm.findClass q.1 = some cellB.cls := by
  unfold pwIsC at hI
  cases hw : w b with
  | inl z => rw [hw] at hI; cases hI
  | inr z =>
    obtain ⟨c9, fs⟩ := z
    rw [hw] at hI
    have hc9 : c9 = ci := Nat.eq_of_beq_eq_true hI
    subst hc9
    obtain ⟨q1, q2, q3⟩ := hR.1 b (by rw [hw]; trivial)
    rw [hw] at q3
    exact va_recv (q0 := 0) C.kb.1 (pwP1 q3) hq rfl
/-- a virtual call's run -/
theorem pwRunV {i b : Nat} {As : List Value} {q : Nat × Nat × Nat × Nat × Nat} (C : pwCx K p l R s m args meth c mt) (hq : pwChkM mc q = true) (hk : q.1 = 1) (hh : mc.2.2.2.1 = []) (hM : pwMet K l mc (.ref b :: As) g w o) (hlink : Jvm.Cond.methodLink mt.1.1 i mc.1.2.1 ∈ pwGw) (hroom : pwRoom mt mc = true) (hR : pwRW K g w H) (hS : va_S (pwA K.1) s.heap H locs) (hI : pwIsC w b mc.2.2.1.2.2 = true) (hn : As.length = mc.2.1.2.2) (hls : ls.size = mt.2.1.1) (hst : st = As.reverse ++ .ref b :: rest) (hW : pwCats rest ≤ 8) (d : decode mt.1.2.2 pc = .ok (.invokevirtual i, 3)) (hc : cells + pwMc g o ≤ R.cells) (hs : slots + pwMs' g o ≤ R.slots) :
    vx_Run p l e R s m args below meth c H locs cells slots (pwMc g o) (pwMs' g o) (F0 m pc ls st) rest (pwQ K o (Value.ref b :: As).toArray) (pwXC K o) (pwA K.1) := by
  obtain ⟨h1, ⟨h2, h3, h4, h5⟩, h6, h7, h8, h9⟩ := pwChkM_d hq
  have hts := C.2.2.2.2.2.1
  obtain ⟨g1, g2, g3⟩ := h9 (by rw [hk]; decide)
  obtain ⟨qc, hqc, hqn⟩ := Option.map_eq_some_iff.mp g2
  have hcell := pwRecv C hR hI hqc
  rw [hqn] at hcell
  exact vx_runV (C := mc.1.1) (pwFix C) hM ⟨pwCB C hq hh hlink hroom, hts _ g1, hts _ (g3 hk)⟩ ⟨pwPre_blind K _ g w, hcell, pwPre_at C hR hS⟩ rfl hn hls hst (lv_room hW) d ⟨hc, hs⟩
/-- a constructor's run -/
theorem pwRunI {i b : Nat} {As : List Value} {q : Nat × Nat × Nat × Nat × Nat} (C : pwCx K p l R s m args meth c mt) (hq : pwChkM mc q = true) (hk : q.1 = 2) (hin : mc.1.2.1.name = "<init>") (hret : mc.2.1.2.1 = none) (hh : mc.2.2.2.1 = []) (hM : pwMet K l mc (.ref b :: As) g w o) (hlink : pwLink mt.1.1 i mc.1.2.1 r = true) (hroom : pwRoom mt mc = true) (hR : pwRW K g w H) (hS : va_S (pwA K.1) s.heap H locs) (hn : As.length = mc.2.1.2.2) (hls : ls.size = mt.2.1.1) (hst : st = As.reverse ++ .ref b :: rest) (hW : pwCats rest ≤ 8) (d : decode mt.1.2.2 pc = .ok (.invokespecial i, 3)) (hc : cells + pwMc g o ≤ R.cells) (hs : slots + pwMs' g o ≤ R.slots) :
    vx_Run p l e R s m args below meth c H locs cells slots (pwMc g o) (pwMs' g o) (F0 m pc ls st) rest (pwQ K o (Value.ref b :: As).toArray) (pwXC K o) (pwA K.1) := by
  obtain ⟨h1, ⟨h2, h3, h4, h5⟩, h6, h7, h8, h9⟩ := pwChkM_d hq
  have hts := C.2.2.2.2.2.1
  obtain ⟨g1, g2, g3⟩ := h9 (by rw [hk]; decide)
  have hp : PreS s H (pwPre K (.ref b :: As) g w) (.ref b :: As) := ⟨pwPre_blind K _ g w, pwPre_at C hR hS⟩
  rcases pwLink_d hlink with hl | hl
  · have hcb := pwCB (g := g) (o := o) C hq hh hl hroom
    rw [hret] at hcb
    exact vx_runI (pwFix C) hM ⟨hcb, hin, hts _ g1⟩ hp rfl hn hls hst (lv_room hW) d ⟨hc, hs⟩
  · have hcb := pwCN (g := g) (o := o) C hq hh hl hroom
    rw [hret] at hcb
    exact vx_runIN (pwFix C) hM ⟨hcb, hin, hts _ g1⟩ hp rfl hn hls hst (lv_room hW) d ⟨hc, hs⟩
end PWC

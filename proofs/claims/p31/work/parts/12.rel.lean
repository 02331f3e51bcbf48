/-! the small machine against the machine: what a heap holds, what a body stands on -/
/-- base address, class numbers, array classes, the read-only rows, the statics' addresses -/
abbrev pwKK : Type := Nat × va_G × (Nat → ClassId) × (Nat → Nat → (Nat → Int32) → Prop) × (Nat → Nat)
def pwA (N0 : Nat) : Nat → Prop := fun q => N0 ≤ q
def pwTys (dA : Nat → ClassId) : List (ClassId × FieldType) := [(dA 0, .int), (dA 1, .int), (dA 2, .int), (dA 3, .object pwR_X5)]
def pwTg (dA : Nat → ClassId) : va_E → va_E
  | .inl (t, x) => .inl (dA t, x)
  | .inr o => .inr o
def pwVld : va_E → Prop
  | .inl (t, _) => t ≤ 3
  | .inr _ => True
def pwRW (K : pwKK) (g : pwG) (w : pwW) (H : Heap) : Prop :=
  (∀ a, pwVld (w a) → K.1 ≤ a ∧ a < g.1 ∧ va_at K.2.1 pwCl (a, pwTg K.2.2.1 (w a)) H) ∧ (∀ a n x, w a = .inl (4, n, x) → ∃ f, x = .inl f ∧ K.2.2.2.1 a n f) ∧ K.1 ≤ g.1 ∧ g.1 ≤ H.size ∧ (g.2.1 = 0 → H.size = g.1)
def pwKB (K : pwKK) (U : State) : Prop :=
  va_K K.2.1 pwCl (pwTys K.2.2.1) U ∧ K.1 ≤ U.heap.size ∧ (∀ a n f, K.2.2.2.1 a n f → a < K.1 ∧ va_T .int a n (fun j => .int (f j)) (pwA K.1) U U.heap) ∧ (∀ j n, pwSt[j]? = some n → va_Z pwR_X6 n "[I" (.ref (K.2.2.2.2 j)) (pwA K.1) U U.heap) ∧
  (vx_Zq Bundle.tN "UNASSIGNED_STACK" Bundle.steD (pwA K.1) U U.heap ∧ vx_Zq Bundle.tN "SUPPRESSED_SENTINEL" Bundle.listD (pwA K.1) U U.heap) ∧ (∀ own k tx, Jvm.Cond.stringRef own k tx ∈ lw_tbl → ∃ sa, vk_R own k tx sa U) ∧
  (∀ own i y h, Jvm.Cond.methodLinkNest own i y h ∈ lw_tbl → va_Nw (.methodLinkNest own i y h) U) ∧ (∀ C T, Jvm.Cond.castable C T ∈ lw_tbl → va_Nw (.castable C T) U) ∧ va_AO pwR_X5 U ∧ (∀ C T, C ∈ pwEx → T ∈ pwEx → C ≠ T → va_Nc C T U) ∧ (∀ x9, Jvm.Cond.declares x9 ∈ lw_tbl → va_Nw (.declares x9) U)
theorem pwKB.next {K : pwKK} {s U : State} {H : Heap} {locs : List Loc} (h : pwKB K s) (hS : va_S (pwA K.1) s.heap H locs) (hW : s.WarmedH U.vm) (hU : U.heap = H) : pwKB K U := by
  obtain ⟨h1, h2, h3, h4, ⟨h5, h6⟩, h7, h8, h9, h10, h11, h12⟩ := h
  subst hU
  have hk : ∀ a : Nat, a < s.heap.size → ¬ pwA K.1 a → U.heap[a]? = s.heap[a]? := hS.2.1
  have hv := hW.alike
  refine ⟨va_K.moved hv h1, Nat.le_trans h2 hS.1, fun a n f hr => ?_, fun j n hj => ?_, ⟨?_, ?_⟩, fun own k tx hm => ?_, fun own i y h hm => va_Nw.warmM hW (h8 _ _ _ _ hm), fun C T hm => va_Nw.warmC hW (h9 _ _ hm), va_AO.moved hv h10, fun C T hC hT hne => ?_, fun x9 hm => va_Nw.warmD hW (h12 _ hm)⟩
  · obtain ⟨q1, q2⟩ := h3 a n f hr
    exact ⟨q1, va_T.moved hv (va_T.kept q2 hk)⟩
  · exact va_Z.moved hv (va_Z.kept (h4 j n hj) hk)
  · exact vx_Zq.moved hv (vx_Zq.kept h5 hk)
  · exact vx_Zq.moved hv (vx_Zq.kept h6 hk)
  · obtain ⟨sa, hs⟩ := h7 own k tx hm
    exact ⟨sa, vk_R.warm hW hs⟩
  · exact va_Nc.moved hv (h11 C T hC hT hne)
def pwCx (K : pwKK) (p : Program) (l : Launch) (R : Room) (s : State) (m : MethodId) (args : Array Value) (meth : Method) (c : Code) (mt : pwMT) : Prop :=
  p.tables.exec = Jvm.exec ∧ c.code = mt.1.2.2 ∧ meth.sig.returnType = mt.2.1.2.1 ∧ c.maxLocals = mt.2.1.1 ∧ s.vm.findClass mt.1.1 = some m.cls ∧ (∀ w ∈ pwGw, w.before args s = true) ∧ meth.locks = false ∧ (mt.1.2.1.name = "<init>" → meth.name = "<init>") ∧ c.exceptionTable.toList = tableOf mt.2.2.2.1 ∧ l.stackTraces = false ∧ mt.2.2.1.1 ≤ R.frames ∧ mt.2.2.1.2.1 ≤ R.locals ∧ pwKB K s
-- locals
def pwLV (ls : Array Slot) (n : Nat) (L : pwLL) : Prop := ls.size = n ∧ lv_wf ls ∧ L.length = n ∧ ∀ (i : Nat) (v : Value), L[i]? = some (some v) → ls[i]? = some (Slot.val v)
def pwLp (L : pwLL) : List (Nat × Value) := (List.range L.length).filterMap fun i => (L.getD i none).map fun v => (i, v)
theorem pwLp_mem {L : pwLL} {i : Nat} {v : Value} : (i, v) ∈ pwLp L ↔ L[i]? = some (some v) := by
  simp only [pwLp, List.mem_filterMap, List.mem_range, Option.map_eq_some_iff, Prod.mk.injEq]
  constructor
  · rintro ⟨j, hj, u, hu, rfl, rfl⟩
    rw [List.getD_eq_getElem?_getD, List.getElem?_eq_getElem hj] at hu
    rw [List.getElem?_eq_getElem hj]
    exact congrArg some hu
  · intro h
    have hl := (List.getElem?_eq_some_iff.mp h).1
    exact ⟨i, hl, v, by rw [List.getD_eq_getElem?_getD, h]; rfl, rfl, rfl⟩
theorem pwLV.has {ls : Array Slot} {n : Nat} {L : pwLL} (h : pwLV ls n L) : lv_has ls n (pwLp L) := ⟨h.1, h.2.1, fun q hq => h.2.2.2 q.1 q.2 (pwLp_mem.mp hq)⟩
theorem pwLV.of {ls : Array Slot} {n : Nat} {L : pwLL} {l : List (Nat × Value)} (h : lv_has ls n l) (hn : L.length = n) (hl : ∀ i v, L[i]? = some (some v) → (i, v) ∈ l) : pwLV ls n L := ⟨h.1, h.2.1, hn, fun i v hv => h.2.2 (i, v) (hl i v hv)⟩
theorem pwFr_nl {L : pwLL} {i j : Nat} {v : Value} (hf : pwFr L i = true) (hj : j + 1 = i) (hv : L[j]? = some (some v)) : ¬ v.category = 2 := by
  subst hj
  have hf : pwNl (L.getD j none) = true := hf
  rw [List.getD_eq_getElem?_getD, hv] at hf
  cases v <;> simp_all [pwNl, Value.category]
theorem pwLV.set1 {ls : Array Slot} {n : Nat} {L : pwLL} {i : Nat} {v : Value} (hn : L.length = n) (hf : pwFr L i = true) (h : lv_has ls n ((i, v) :: (pwLp L).filter (fun q => !(q.1 == i) && !(q.1 + 1 == i && q.2.category == 2)))) : pwLV ls n (L.set i (some v)) := by
  refine pwLV.of h (by rw [List.length_set]; exact hn) (fun j u hu => ?_)
  by_cases hj : j = i
  · subst hj
    have hl : j < L.length := by have := (List.getElem?_eq_some_iff.mp hu).1; rwa [List.length_set] at this
    rw [List.getElem?_set_self hl] at hu
    cases hu
    exact List.mem_cons_self
  · rw [List.getElem?_set_ne (Ne.symm hj)] at hu
    refine List.mem_cons_of_mem _ (List.mem_filter.mpr ⟨pwLp_mem.mpr hu, ?_⟩)
    have h2 : ¬ (j + 1 = i ∧ u.category = 2) := fun q => pwFr_nl hf q.1 hu q.2
    simp only [Bool.and_eq_true, Bool.not_eq_true', beq_eq_false_iff_ne, ne_eq, Bool.and_eq_false_iff]
    refine ⟨hj, ?_⟩
    by_cases h3 : j + 1 = i
    · exact Or.inr fun q => h2 ⟨h3, q⟩
    · exact Or.inl h3
theorem pwLV.set2 {ls : Array Slot} {n : Nat} {L : pwLL} {i : Nat} {v : Value} (hn : L.length = n) (hf : pwFr L i = true) (h : lv_has ls n ((i, v) :: (pwLp L).filter (fun q => !(q.1 == i) && (!(q.1 == i + 1) && !(q.1 + 1 == i && q.2.category == 2))))) : pwLV ls n ((L.set i (some v)).set (i + 1) none) := by
  refine pwLV.of h (by rw [List.length_set, List.length_set]; exact hn) (fun j u hu => ?_)
  by_cases hj1 : j = i + 1
  · subst hj1
    have hl : i + 1 < (L.set i (some v)).length := by have := (List.getElem?_eq_some_iff.mp hu).1; rwa [List.length_set] at this
    rw [List.getElem?_set_self hl] at hu
    cases hu
  · rw [List.getElem?_set_ne (Ne.symm hj1)] at hu
    by_cases hj : j = i
    · subst hj
      have hl : j < L.length := by have := (List.getElem?_eq_some_iff.mp hu).1; rwa [List.length_set] at this
      rw [List.getElem?_set_self hl] at hu
      cases hu
      exact List.mem_cons_self
    · rw [List.getElem?_set_ne (Ne.symm hj)] at hu
      refine List.mem_cons_of_mem _ (List.mem_filter.mpr ⟨pwLp_mem.mpr hu, ?_⟩)
      have h2 : ¬ (j + 1 = i ∧ u.category = 2) := fun q => pwFr_nl hf q.1 hu q.2
      simp only [Bool.and_eq_true, Bool.not_eq_true', beq_eq_false_iff_ne, ne_eq, Bool.and_eq_false_iff]
      refine ⟨hj, hj1, ?_⟩
      by_cases h3 : j + 1 = i
      · exact Or.inr fun q => h2 ⟨h3, q⟩
      · exact Or.inl h3
theorem pwLV.unset {ls : Array Slot} {n : Nat} {L : pwLL} {i : Nat} (h : pwLV ls n L) : pwLV ls n (L.set i none) := by
  refine ⟨h.1, h.2.1, by rw [List.length_set]; exact h.2.2.1, fun j v hv => ?_⟩
  by_cases hj : j = i
  · subst hj
    have hl : j < L.length := by have := (List.getElem?_eq_some_iff.mp hv).1; rwa [List.length_set] at this
    rw [List.getElem?_set_self hl] at hv
    cases hv
  · rw [List.getElem?_set_ne (Ne.symm hj)] at hv
    exact h.2.2.2 j v hv
/-- from here on the body comes to Q -/
def pwV (K : pwKK) (p : Program) (l : Launch) (e : Env) (R : Room) (s : State) (m : MethodId) (args : Array Value) (below : List Frame) (meth : Method) (c : Code) (Q : State → Prop) (k0 s0 : Nat) (mt : pwMT) (x : pwS) : Prop :=
  ∀ (H : Heap) (locs : List Loc) (cells slots : Nat) (ls : Array Slot), pwRW K x.2.2.2.1 x.2.2.2.2 H → va_S (pwA K.1) s.heap H locs → pwLV ls mt.2.1.1 x.2.1 → cells + k0 = x.2.2.2.1.2.2.1 → slots + s0 = x.2.2.2.1.2.2.2 → W p l e R s m args below meth c H locs cells slots Q (F0 m x.1 ls x.2.2.1)
section PWI
variable {K : pwKK} {p : Program} {l : Launch} {e : Env} {R : Room} {s : State} {m : MethodId} {args : Array Value} {below : List Frame} {meth : Method} {c : Code} {Q : State → Prop} {k0 s0 : Nat} {mt : pwMT} {pc len mi : Nat} {r : pwRP} {L : pwLL} {st : List Value} {g : pwG} {w : pwW} {x : pwS}

theorem pwI_iconst (C : pwCx K p l R s m args meth c mt) {n : Int} (d : decode mt.1.2.2 pc = .ok (.iconst n, len)) (hk : pwChkL mt pc (.iconst n) len r = true) (ha : pwAct1 (.iconst n) len r mi pc L st g w = some (.inl x)) (kk : pwV K p l e R s m args below meth c Q k0 s0 mt x) : pwV K p l e R s m args below meth c Q k0 s0 mt (pc, L, st, g, w) := by
  have hlen : len = 1 := by simpa [pwChkL] using hk
  subst hlen
  simp only [pwAct1] at ha
  simp only [pwGo, Option.some.injEq, Sum.inl.injEq] at ha; subst ha
  intro H locs cells slots ls hR hS hL h1 h2
  refine lv_iconst C.1 C.2.1 d rfl ?_
  exact kk H locs cells slots ls hR hS hL h1 h2
theorem pwI_bipush (C : pwCx K p l R s m args meth c mt) {n : Int} (d : decode mt.1.2.2 pc = .ok (.bipush n, len)) (hk : pwChkL mt pc (.bipush n) len r = true) (ha : pwAct1 (.bipush n) len r mi pc L st g w = some (.inl x)) (kk : pwV K p l e R s m args below meth c Q k0 s0 mt x) : pwV K p l e R s m args below meth c Q k0 s0 mt (pc, L, st, g, w) := by
  have hlen : len = 2 := by simpa [pwChkL] using hk
  subst hlen
  simp only [pwAct1] at ha
  simp only [pwGo, Option.some.injEq, Sum.inl.injEq] at ha; subst ha
  intro H locs cells slots ls hR hS hL h1 h2
  refine lv_bipush C.1 C.2.1 d rfl ?_
  exact kk H locs cells slots ls hR hS hL h1 h2
theorem pwI_sipush (C : pwCx K p l R s m args meth c mt) {n : Int} (d : decode mt.1.2.2 pc = .ok (.sipush n, len)) (hk : pwChkL mt pc (.sipush n) len r = true) (ha : pwAct1 (.sipush n) len r mi pc L st g w = some (.inl x)) (kk : pwV K p l e R s m args below meth c Q k0 s0 mt x) : pwV K p l e R s m args below meth c Q k0 s0 mt (pc, L, st, g, w) := by
  have hlen : len = 3 := by simpa [pwChkL] using hk
  subst hlen
  simp only [pwAct1] at ha
  simp only [pwGo, Option.some.injEq, Sum.inl.injEq] at ha; subst ha
  intro H locs cells slots ls hR hS hL h1 h2
  refine lv_sipush C.1 C.2.1 d rfl ?_
  exact kk H locs cells slots ls hR hS hL h1 h2
theorem pwI_lconst (C : pwCx K p l R s m args meth c mt) {n : Fin 2} (d : decode mt.1.2.2 pc = .ok (.lconst n, len)) (hk : pwChkL mt pc (.lconst n) len r = true) (ha : pwAct1 (.lconst n) len r mi pc L st g w = some (.inl x)) (kk : pwV K p l e R s m args below meth c Q k0 s0 mt x) : pwV K p l e R s m args below meth c Q k0 s0 mt (pc, L, st, g, w) := by
  have hlen : len = 1 := by simpa [pwChkL] using hk
  subst hlen
  simp only [pwAct1] at ha
  simp only [pwGo, Option.some.injEq, Sum.inl.injEq] at ha; subst ha
  intro H locs cells slots ls hR hS hL h1 h2
  refine lv_lconst C.1 C.2.1 d rfl ?_
  exact kk H locs cells slots ls hR hS hL h1 h2
theorem pwI_ldc (C : pwCx K p l R s m args meth c mt) {i : Nat} (d : decode mt.1.2.2 pc = .ok (.ldc i, len)) (hk : pwChkL mt pc (.ldc i) len r = true) (ha : pwAct1 (.ldc i) len r mi pc L st g w = some (.inl x)) (kk : pwV K p l e R s m args below meth c Q k0 s0 mt x) : pwV K p l e R s m args below meth c Q k0 s0 mt (pc, L, st, g, w) := by
  simp only [pwAct1] at ha
  cases h0 : Nat.beq r.2.1 0 with
  | false => rw [h0] at ha; cases ha
  | true =>
    rw [h0, cond_true] at ha
    simp only [pwGo, Option.some.injEq, Sum.inl.injEq] at ha; subst ha
    simp only [pwChkL, h0, cond_true, Bool.and_eq_true, Nat.beq_eq] at hk
    obtain ⟨hlen, hw⟩ := hk
    subst hlen
    intro H locs cells slots ls hR hS hL h1 h2
    refine lv_ldc C.1 C.2.1 C.2.2.2.2.1 (C.2.2.2.2.2.1 _ (pwIn_mem hw)) d ?_
    exact kk H locs cells slots ls hR hS hL h1 h2
theorem pwI_ldc_w (C : pwCx K p l R s m args meth c mt) {i : Nat} (d : decode mt.1.2.2 pc = .ok (.ldc_w i, len)) (hk : pwChkL mt pc (.ldc_w i) len r = true) (ha : pwAct1 (.ldc_w i) len r mi pc L st g w = some (.inl x)) (kk : pwV K p l e R s m args below meth c Q k0 s0 mt x) : pwV K p l e R s m args below meth c Q k0 s0 mt (pc, L, st, g, w) := by
  simp only [pwAct1] at ha
  cases h0 : Nat.beq r.2.1 0 with
  | false => rw [h0] at ha; cases ha
  | true =>
    rw [h0, cond_true] at ha
    simp only [pwGo, Option.some.injEq, Sum.inl.injEq] at ha; subst ha
    simp only [pwChkL, h0, cond_true, Bool.and_eq_true, Nat.beq_eq] at hk
    obtain ⟨hlen, hw⟩ := hk
    subst hlen
    intro H locs cells slots ls hR hS hL h1 h2
    refine lv_ldcw C.1 C.2.1 C.2.2.2.2.1 (C.2.2.2.2.2.1 _ (pwIn_mem hw)) d ?_
    exact kk H locs cells slots ls hR hS hL h1 h2
theorem pwI_ldc2_w (C : pwCx K p l R s m args meth c mt) {i : Nat} (d : decode mt.1.2.2 pc = .ok (.ldc2_w i, len)) (hk : pwChkL mt pc (.ldc2_w i) len r = true) (ha : pwAct1 (.ldc2_w i) len r mi pc L st g w = some (.inl x)) (kk : pwV K p l e R s m args below meth c Q k0 s0 mt x) : pwV K p l e R s m args below meth c Q k0 s0 mt (pc, L, st, g, w) := by
  simp only [pwAct1] at ha
  simp only [pwGo, Option.some.injEq, Sum.inl.injEq] at ha; subst ha
  simp only [pwChkL, Bool.and_eq_true, Nat.beq_eq] at hk
  obtain ⟨hlen, hw⟩ := hk
  subst hlen
  intro H locs cells slots ls hR hS hL h1 h2
  refine lv_ldc2 C.1 C.2.1 C.2.2.2.2.1 (C.2.2.2.2.2.1 _ (pwIn_mem hw)) d ?_
  exact kk H locs cells slots ls hR hS hL h1 h2
theorem pwI_iload_n (C : pwCx K p l R s m args meth c mt) {i : Fin 4} (d : decode mt.1.2.2 pc = .ok (.iload_n i, len)) (hk : pwChkL mt pc (.iload_n i) len r = true) (ha : pwAct1 (.iload_n i) len r mi pc L st g w = some (.inl x)) (kk : pwV K p l e R s m args below meth c Q k0 s0 mt x) : pwV K p l e R s m args below meth c Q k0 s0 mt (pc, L, st, g, w) := by
  have hlen : len = 1 := by simpa [pwChkL] using hk
  subst hlen
  simp only [pwAct1] at ha
  split at ha
  · rename_i v hv
    simp only [pwGo, Option.some.injEq, Sum.inl.injEq] at ha; subst ha
    intro H locs cells slots ls hR hS hL h1 h2
    refine lv_iload_n C.1 C.2.1 d rfl (hL.2.2.2 _ _ hv) ?_
    exact kk H locs cells slots ls hR hS hL h1 h2
  · cases ha
theorem pwI_iload (C : pwCx K p l R s m args meth c mt) {i : Nat} (d : decode mt.1.2.2 pc = .ok (.iload i, len)) (hk : pwChkL mt pc (.iload i) len r = true) (ha : pwAct1 (.iload i) len r mi pc L st g w = some (.inl x)) (kk : pwV K p l e R s m args below meth c Q k0 s0 mt x) : pwV K p l e R s m args below meth c Q k0 s0 mt (pc, L, st, g, w) := by
  have hlen : len = 2 := by simpa [pwChkL] using hk
  subst hlen
  simp only [pwAct1] at ha
  split at ha
  · rename_i v hv
    simp only [pwGo, Option.some.injEq, Sum.inl.injEq] at ha; subst ha
    intro H locs cells slots ls hR hS hL h1 h2
    refine lv_iload C.1 C.2.1 d (hL.2.2.2 _ _ hv) ?_
    exact kk H locs cells slots ls hR hS hL h1 h2
  · cases ha
theorem pwI_lload_n (C : pwCx K p l R s m args meth c mt) {i : Fin 4} (d : decode mt.1.2.2 pc = .ok (.lload_n i, len)) (hk : pwChkL mt pc (.lload_n i) len r = true) (ha : pwAct1 (.lload_n i) len r mi pc L st g w = some (.inl x)) (kk : pwV K p l e R s m args below meth c Q k0 s0 mt x) : pwV K p l e R s m args below meth c Q k0 s0 mt (pc, L, st, g, w) := by
  have hlen : len = 1 := by simpa [pwChkL] using hk
  subst hlen
  simp only [pwAct1] at ha
  split at ha
  · rename_i v hv
    simp only [pwGo, Option.some.injEq, Sum.inl.injEq] at ha; subst ha
    intro H locs cells slots ls hR hS hL h1 h2
    refine lv_lload_n C.1 C.2.1 d rfl (hL.2.2.2 _ _ hv) ?_
    exact kk H locs cells slots ls hR hS hL h1 h2
  · cases ha
theorem pwI_lload (C : pwCx K p l R s m args meth c mt) {i : Nat} (d : decode mt.1.2.2 pc = .ok (.lload i, len)) (hk : pwChkL mt pc (.lload i) len r = true) (ha : pwAct1 (.lload i) len r mi pc L st g w = some (.inl x)) (kk : pwV K p l e R s m args below meth c Q k0 s0 mt x) : pwV K p l e R s m args below meth c Q k0 s0 mt (pc, L, st, g, w) := by
  have hlen : len = 2 := by simpa [pwChkL] using hk
  subst hlen
  simp only [pwAct1] at ha
  split at ha
  · rename_i v hv
    simp only [pwGo, Option.some.injEq, Sum.inl.injEq] at ha; subst ha
    intro H locs cells slots ls hR hS hL h1 h2
    refine lv_lload C.1 C.2.1 d (hL.2.2.2 _ _ hv) ?_
    exact kk H locs cells slots ls hR hS hL h1 h2
  · cases ha
theorem pwI_aload_n (C : pwCx K p l R s m args meth c mt) {i : Fin 4} (d : decode mt.1.2.2 pc = .ok (.aload_n i, len)) (hk : pwChkL mt pc (.aload_n i) len r = true) (ha : pwAct1 (.aload_n i) len r mi pc L st g w = some (.inl x)) (kk : pwV K p l e R s m args below meth c Q k0 s0 mt x) : pwV K p l e R s m args below meth c Q k0 s0 mt (pc, L, st, g, w) := by
  have hlen : len = 1 := by simpa [pwChkL] using hk
  subst hlen
  simp only [pwAct1] at ha
  split at ha
  · rename_i v hv
    simp only [pwGo, Option.some.injEq, Sum.inl.injEq] at ha; subst ha
    intro H locs cells slots ls hR hS hL h1 h2
    refine lv_aload_n C.1 C.2.1 d rfl (hL.2.2.2 _ _ hv) ?_
    exact kk H locs cells slots ls hR hS hL h1 h2
  · cases ha
theorem pwI_aload (C : pwCx K p l R s m args meth c mt) {i : Nat} (d : decode mt.1.2.2 pc = .ok (.aload i, len)) (hk : pwChkL mt pc (.aload i) len r = true) (ha : pwAct1 (.aload i) len r mi pc L st g w = some (.inl x)) (kk : pwV K p l e R s m args below meth c Q k0 s0 mt x) : pwV K p l e R s m args below meth c Q k0 s0 mt (pc, L, st, g, w) := by
  have hlen : len = 2 := by simpa [pwChkL] using hk
  subst hlen
  simp only [pwAct1] at ha
  split at ha
  · rename_i v hv
    simp only [pwGo, Option.some.injEq, Sum.inl.injEq] at ha; subst ha
    intro H locs cells slots ls hR hS hL h1 h2
    refine lv_aload C.1 C.2.1 d (hL.2.2.2 _ _ hv) ?_
    exact kk H locs cells slots ls hR hS hL h1 h2
  · cases ha
theorem pwI_istore_n (C : pwCx K p l R s m args meth c mt) {i : Fin 4} (d : decode mt.1.2.2 pc = .ok (.istore_n i, len)) (hk : pwChkL mt pc (.istore_n i) len r = true) (ha : pwAct1 (.istore_n i) len r mi pc L st g w = some (.inl x)) (kk : pwV K p l e R s m args below meth c Q k0 s0 mt x) : pwV K p l e R s m args below meth c Q k0 s0 mt (pc, L, st, g, w) := by
  have hlen : len = 1 := by simpa [pwChkL] using hk
  subst hlen
  simp only [pwAct1] at ha
  split at ha
  · rename_i v st'
    cases hb : (pwFr L (i : Nat) && Nat.blt (i : Nat) L.length) with
    | false => rw [hb, cond_false] at ha; cases ha
    | true =>
      rw [hb, cond_true] at ha
      simp only [pwGo, Option.some.injEq, Sum.inl.injEq] at ha; subst ha
      simp only [Bool.and_eq_true, Nat.blt_eq] at hb
      intro H locs cells slots ls hR hS hL h1 h2
      refine lv_istore_n C.1 C.2.1 d rfl hL.has (by have h9 : L.length = mt.2.1.1 := hL.2.2.1; omega) rfl (fun ls1 hl1 => ?_)
      exact kk H locs cells slots ls1 hR hS (pwLV.set1 hL.2.2.1 hb.1 hl1) h1 h2
  · cases ha
theorem pwI_istore (C : pwCx K p l R s m args meth c mt) {i : Nat} (d : decode mt.1.2.2 pc = .ok (.istore i, len)) (hk : pwChkL mt pc (.istore i) len r = true) (ha : pwAct1 (.istore i) len r mi pc L st g w = some (.inl x)) (kk : pwV K p l e R s m args below meth c Q k0 s0 mt x) : pwV K p l e R s m args below meth c Q k0 s0 mt (pc, L, st, g, w) := by
  have hlen : len = 2 := by simpa [pwChkL] using hk
  subst hlen
  simp only [pwAct1] at ha
  split at ha
  · rename_i v st'
    cases hb : (pwFr L i && Nat.blt i L.length) with
    | false => rw [hb, cond_false] at ha; cases ha
    | true =>
      rw [hb, cond_true] at ha
      simp only [pwGo, Option.some.injEq, Sum.inl.injEq] at ha; subst ha
      simp only [Bool.and_eq_true, Nat.blt_eq] at hb
      intro H locs cells slots ls hR hS hL h1 h2
      refine lv_istore C.1 C.2.1 d hL.has (by have h9 : L.length = mt.2.1.1 := hL.2.2.1; omega) rfl (fun ls1 hl1 => ?_)
      exact kk H locs cells slots ls1 hR hS (pwLV.set1 hL.2.2.1 hb.1 hl1) h1 h2
  · cases ha
theorem pwI_astore_n (C : pwCx K p l R s m args meth c mt) {i : Fin 4} (d : decode mt.1.2.2 pc = .ok (.astore_n i, len)) (hk : pwChkL mt pc (.astore_n i) len r = true) (ha : pwAct1 (.astore_n i) len r mi pc L st g w = some (.inl x)) (kk : pwV K p l e R s m args below meth c Q k0 s0 mt x) : pwV K p l e R s m args below meth c Q k0 s0 mt (pc, L, st, g, w) := by
  have hlen : len = 1 := by simpa [pwChkL] using hk
  subst hlen
  simp only [pwAct1] at ha
  split at ha
  · rename_i v st'
    cases hb : (pwFr L (i : Nat) && Nat.blt (i : Nat) L.length) with
    | false => rw [hb, cond_false] at ha; cases ha
    | true =>
      rw [hb, cond_true] at ha
      simp only [pwGo, Option.some.injEq, Sum.inl.injEq] at ha; subst ha
      simp only [Bool.and_eq_true, Nat.blt_eq] at hb
      intro H locs cells slots ls hR hS hL h1 h2
      refine lv_astore_n C.1 C.2.1 d rfl hL.has (by have h9 : L.length = mt.2.1.1 := hL.2.2.1; omega) rfl (fun ls1 hl1 => ?_)
      exact kk H locs cells slots ls1 hR hS (pwLV.set1 hL.2.2.1 hb.1 hl1) h1 h2
  · cases ha
theorem pwI_astore (C : pwCx K p l R s m args meth c mt) {i : Nat} (d : decode mt.1.2.2 pc = .ok (.astore i, len)) (hk : pwChkL mt pc (.astore i) len r = true) (ha : pwAct1 (.astore i) len r mi pc L st g w = some (.inl x)) (kk : pwV K p l e R s m args below meth c Q k0 s0 mt x) : pwV K p l e R s m args below meth c Q k0 s0 mt (pc, L, st, g, w) := by
  have hlen : len = 2 := by simpa [pwChkL] using hk
  subst hlen
  simp only [pwAct1] at ha
  split at ha
  · rename_i v st'
    cases hb : (pwFr L i && Nat.blt i L.length) with
    | false => rw [hb, cond_false] at ha; cases ha
    | true =>
      rw [hb, cond_true] at ha
      simp only [pwGo, Option.some.injEq, Sum.inl.injEq] at ha; subst ha
      simp only [Bool.and_eq_true, Nat.blt_eq] at hb
      intro H locs cells slots ls hR hS hL h1 h2
      refine lv_astore C.1 C.2.1 d hL.has (by have h9 : L.length = mt.2.1.1 := hL.2.2.1; omega) rfl (fun ls1 hl1 => ?_)
      exact kk H locs cells slots ls1 hR hS (pwLV.set1 hL.2.2.1 hb.1 hl1) h1 h2
  · cases ha
theorem pwI_lstore_n (C : pwCx K p l R s m args meth c mt) {i : Fin 4} (d : decode mt.1.2.2 pc = .ok (.lstore_n i, len)) (hk : pwChkL mt pc (.lstore_n i) len r = true) (ha : pwAct1 (.lstore_n i) len r mi pc L st g w = some (.inl x)) (kk : pwV K p l e R s m args below meth c Q k0 s0 mt x) : pwV K p l e R s m args below meth c Q k0 s0 mt (pc, L, st, g, w) := by
  have hlen : len = 1 := by simpa [pwChkL] using hk
  subst hlen
  simp only [pwAct1] at ha
  split at ha
  · rename_i v st'
    cases hb : (pwFr L (i : Nat) && Nat.blt ((i : Nat) + 1) L.length) with
    | false => rw [hb, cond_false] at ha; cases ha
    | true =>
      rw [hb, cond_true] at ha
      simp only [pwGo, Option.some.injEq, Sum.inl.injEq] at ha; subst ha
      simp only [Bool.and_eq_true, Nat.blt_eq] at hb
      intro H locs cells slots ls hR hS hL h1 h2
      refine lv_lstore_n C.1 C.2.1 d rfl hL.has (by have h9 : L.length = mt.2.1.1 := hL.2.2.1; omega) rfl (fun ls1 hl1 => ?_)
      exact kk H locs cells slots ls1 hR hS (pwLV.set2 hL.2.2.1 hb.1 hl1) h1 h2
  · cases ha
theorem pwI_lstore (C : pwCx K p l R s m args meth c mt) {i : Nat} (d : decode mt.1.2.2 pc = .ok (.lstore i, len)) (hk : pwChkL mt pc (.lstore i) len r = true) (ha : pwAct1 (.lstore i) len r mi pc L st g w = some (.inl x)) (kk : pwV K p l e R s m args below meth c Q k0 s0 mt x) : pwV K p l e R s m args below meth c Q k0 s0 mt (pc, L, st, g, w) := by
  have hlen : len = 2 := by simpa [pwChkL] using hk
  subst hlen
  simp only [pwAct1] at ha
  split at ha
  · rename_i v st'
    cases hb : (pwFr L i && Nat.blt (i + 1) L.length) with
    | false => rw [hb, cond_false] at ha; cases ha
    | true =>
      rw [hb, cond_true] at ha
      simp only [pwGo, Option.some.injEq, Sum.inl.injEq] at ha; subst ha
      simp only [Bool.and_eq_true, Nat.blt_eq] at hb
      intro H locs cells slots ls hR hS hL h1 h2
      refine lv_lstore C.1 C.2.1 d hL.has (by have h9 : L.length = mt.2.1.1 := hL.2.2.1; omega) rfl (fun ls1 hl1 => ?_)
      exact kk H locs cells slots ls1 hR hS (pwLV.set2 hL.2.2.1 hb.1 hl1) h1 h2
  · cases ha
theorem pwI_iinc (C : pwCx K p l R s m args meth c mt) {i : Nat} {n : Int} (d : decode mt.1.2.2 pc = .ok (.iinc i n, len)) (hk : pwChkL mt pc (.iinc i n) len r = true) (ha : pwAct1 (.iinc i n) len r mi pc L st g w = some (.inl x)) (kk : pwV K p l e R s m args below meth c Q k0 s0 mt x) : pwV K p l e R s m args below meth c Q k0 s0 mt (pc, L, st, g, w) := by
  have hlen : len = 3 := by simpa [pwChkL] using hk
  subst hlen
  simp only [pwAct1] at ha
  split at ha
  · rename_i v hv
    cases hb : pwFr L i with
    | false => rw [hb, cond_false] at ha; cases ha
    | true =>
      rw [hb, cond_true] at ha
      simp only [pwGo, Option.some.injEq, Sum.inl.injEq] at ha; subst ha
      intro H locs cells slots ls hR hS hL h1 h2
      obtain ⟨k, hk1⟩ := List.getElem?_of_mem (pwLp_mem.mpr hv)
      refine lv_iinc C.1 C.2.1 d hL.has hk1 rfl (by have h9 : L.length = mt.2.1.1 := hL.2.2.1; have := (List.getElem?_eq_some_iff.mp hv).1; omega) rfl (fun ls1 hl1 => ?_)
      exact kk H locs cells slots ls1 hR hS (pwLV.set1 hL.2.2.1 hb hl1) h1 h2
  · cases ha
theorem pwI_dup (C : pwCx K p l R s m args meth c mt) (d : decode mt.1.2.2 pc = .ok (.dup, len)) (hk : pwChkL mt pc (.dup) len r = true) (ha : pwAct1 (.dup) len r mi pc L st g w = some (.inl x)) (kk : pwV K p l e R s m args below meth c Q k0 s0 mt x) : pwV K p l e R s m args below meth c Q k0 s0 mt (pc, L, st, g, w) := by
  have hlen : len = 1 := by simpa [pwChkL] using hk
  subst hlen
  simp only [pwAct1] at ha
  split at ha
  · simp only [pwGo, Option.some.injEq, Sum.inl.injEq] at ha; subst ha
    intro H locs cells slots ls hR hS hL h1 h2
    refine lv_dup C.1 C.2.1 d rfl ?_
    exact kk H locs cells slots ls hR hS hL h1 h2
  · simp only [pwGo, Option.some.injEq, Sum.inl.injEq] at ha; subst ha
    intro H locs cells slots ls hR hS hL h1 h2
    refine lv_dup C.1 C.2.1 d rfl ?_
    exact kk H locs cells slots ls hR hS hL h1 h2
  · cases ha
theorem pwI_dup2 (C : pwCx K p l R s m args meth c mt) (d : decode mt.1.2.2 pc = .ok (.dup2, len)) (hk : pwChkL mt pc (.dup2) len r = true) (ha : pwAct1 (.dup2) len r mi pc L st g w = some (.inl x)) (kk : pwV K p l e R s m args below meth c Q k0 s0 mt x) : pwV K p l e R s m args below meth c Q k0 s0 mt (pc, L, st, g, w) := by
  have hlen : len = 1 := by simpa [pwChkL] using hk
  subst hlen
  simp only [pwAct1] at ha
  split at ha
  · simp only [pwGo, Option.some.injEq, Sum.inl.injEq] at ha; subst ha
    intro H locs cells slots ls hR hS hL h1 h2
    refine lv_dup2_11 C.1 C.2.1 d rfl rfl ?_
    exact kk H locs cells slots ls hR hS hL h1 h2
  · cases ha
theorem pwI_pop (C : pwCx K p l R s m args meth c mt) (d : decode mt.1.2.2 pc = .ok (.pop, len)) (hk : pwChkL mt pc (.pop) len r = true) (ha : pwAct1 (.pop) len r mi pc L st g w = some (.inl x)) (kk : pwV K p l e R s m args below meth c Q k0 s0 mt x) : pwV K p l e R s m args below meth c Q k0 s0 mt (pc, L, st, g, w) := by
  have hlen : len = 1 := by simpa [pwChkL] using hk
  subst hlen
  simp only [pwAct1] at ha
  split at ha
  · simp only [pwGo, Option.some.injEq, Sum.inl.injEq] at ha; subst ha
    intro H locs cells slots ls hR hS hL h1 h2
    refine lv_pop C.1 C.2.1 d rfl ?_
    exact kk H locs cells slots ls hR hS hL h1 h2
  · cases ha
theorem pwI_iadd (C : pwCx K p l R s m args meth c mt) (d : decode mt.1.2.2 pc = .ok (.iadd, len)) (hk : pwChkL mt pc (.iadd) len r = true) (ha : pwAct1 (.iadd) len r mi pc L st g w = some (.inl x)) (kk : pwV K p l e R s m args below meth c Q k0 s0 mt x) : pwV K p l e R s m args below meth c Q k0 s0 mt (pc, L, st, g, w) := by
  have hlen : len = 1 := by simpa [pwChkL] using hk
  subst hlen
  simp only [pwAct1] at ha
  split at ha
  · simp only [pwGo, Option.some.injEq, Sum.inl.injEq] at ha; subst ha
    intro H locs cells slots ls hR hS hL h1 h2
    refine lv_iadd C.1 C.2.1 d ?_
    exact kk H locs cells slots ls hR hS hL h1 h2
  · cases ha
theorem pwI_isub (C : pwCx K p l R s m args meth c mt) (d : decode mt.1.2.2 pc = .ok (.isub, len)) (hk : pwChkL mt pc (.isub) len r = true) (ha : pwAct1 (.isub) len r mi pc L st g w = some (.inl x)) (kk : pwV K p l e R s m args below meth c Q k0 s0 mt x) : pwV K p l e R s m args below meth c Q k0 s0 mt (pc, L, st, g, w) := by
  have hlen : len = 1 := by simpa [pwChkL] using hk
  subst hlen
  simp only [pwAct1] at ha
  split at ha
  · simp only [pwGo, Option.some.injEq, Sum.inl.injEq] at ha; subst ha
    intro H locs cells slots ls hR hS hL h1 h2
    refine lv_isub C.1 C.2.1 d ?_
    exact kk H locs cells slots ls hR hS hL h1 h2
  · cases ha
theorem pwI_imul (C : pwCx K p l R s m args meth c mt) (d : decode mt.1.2.2 pc = .ok (.imul, len)) (hk : pwChkL mt pc (.imul) len r = true) (ha : pwAct1 (.imul) len r mi pc L st g w = some (.inl x)) (kk : pwV K p l e R s m args below meth c Q k0 s0 mt x) : pwV K p l e R s m args below meth c Q k0 s0 mt (pc, L, st, g, w) := by
  have hlen : len = 1 := by simpa [pwChkL] using hk
  subst hlen
  simp only [pwAct1] at ha
  split at ha
  · simp only [pwGo, Option.some.injEq, Sum.inl.injEq] at ha; subst ha
    intro H locs cells slots ls hR hS hL h1 h2
    refine lv_imul C.1 C.2.1 d ?_
    exact kk H locs cells slots ls hR hS hL h1 h2
  · cases ha
theorem pwI_iand (C : pwCx K p l R s m args meth c mt) (d : decode mt.1.2.2 pc = .ok (.iand, len)) (hk : pwChkL mt pc (.iand) len r = true) (ha : pwAct1 (.iand) len r mi pc L st g w = some (.inl x)) (kk : pwV K p l e R s m args below meth c Q k0 s0 mt x) : pwV K p l e R s m args below meth c Q k0 s0 mt (pc, L, st, g, w) := by
  have hlen : len = 1 := by simpa [pwChkL] using hk
  subst hlen
  simp only [pwAct1] at ha
  split at ha
  · simp only [pwGo, Option.some.injEq, Sum.inl.injEq] at ha; subst ha
    intro H locs cells slots ls hR hS hL h1 h2
    refine lv_iand C.1 C.2.1 d ?_
    exact kk H locs cells slots ls hR hS hL h1 h2
  · cases ha
theorem pwI_ior (C : pwCx K p l R s m args meth c mt) (d : decode mt.1.2.2 pc = .ok (.ior, len)) (hk : pwChkL mt pc (.ior) len r = true) (ha : pwAct1 (.ior) len r mi pc L st g w = some (.inl x)) (kk : pwV K p l e R s m args below meth c Q k0 s0 mt x) : pwV K p l e R s m args below meth c Q k0 s0 mt (pc, L, st, g, w) := by
  have hlen : len = 1 := by simpa [pwChkL] using hk
  subst hlen
  simp only [pwAct1] at ha
  split at ha
  · simp only [pwGo, Option.some.injEq, Sum.inl.injEq] at ha; subst ha
    intro H locs cells slots ls hR hS hL h1 h2
    refine lv_ior C.1 C.2.1 d ?_
    exact kk H locs cells slots ls hR hS hL h1 h2
  · cases ha
theorem pwI_ishl (C : pwCx K p l R s m args meth c mt) (d : decode mt.1.2.2 pc = .ok (.ishl, len)) (hk : pwChkL mt pc (.ishl) len r = true) (ha : pwAct1 (.ishl) len r mi pc L st g w = some (.inl x)) (kk : pwV K p l e R s m args below meth c Q k0 s0 mt x) : pwV K p l e R s m args below meth c Q k0 s0 mt (pc, L, st, g, w) := by
  have hlen : len = 1 := by simpa [pwChkL] using hk
  subst hlen
  simp only [pwAct1] at ha
  split at ha
  · simp only [pwGo, Option.some.injEq, Sum.inl.injEq] at ha; subst ha
    intro H locs cells slots ls hR hS hL h1 h2
    refine lv_ishl C.1 C.2.1 d ?_
    exact kk H locs cells slots ls hR hS hL h1 h2
  · cases ha
theorem pwI_ishr (C : pwCx K p l R s m args meth c mt) (d : decode mt.1.2.2 pc = .ok (.ishr, len)) (hk : pwChkL mt pc (.ishr) len r = true) (ha : pwAct1 (.ishr) len r mi pc L st g w = some (.inl x)) (kk : pwV K p l e R s m args below meth c Q k0 s0 mt x) : pwV K p l e R s m args below meth c Q k0 s0 mt (pc, L, st, g, w) := by
  have hlen : len = 1 := by simpa [pwChkL] using hk
  subst hlen
  simp only [pwAct1] at ha
  split at ha
  · simp only [pwGo, Option.some.injEq, Sum.inl.injEq] at ha; subst ha
    intro H locs cells slots ls hR hS hL h1 h2
    refine lv_ishr C.1 C.2.1 d ?_
    exact kk H locs cells slots ls hR hS hL h1 h2
  · cases ha
theorem pwI_ladd (C : pwCx K p l R s m args meth c mt) (d : decode mt.1.2.2 pc = .ok (.ladd, len)) (hk : pwChkL mt pc (.ladd) len r = true) (ha : pwAct1 (.ladd) len r mi pc L st g w = some (.inl x)) (kk : pwV K p l e R s m args below meth c Q k0 s0 mt x) : pwV K p l e R s m args below meth c Q k0 s0 mt (pc, L, st, g, w) := by
  have hlen : len = 1 := by simpa [pwChkL] using hk
  subst hlen
  simp only [pwAct1] at ha
  split at ha
  · simp only [pwGo, Option.some.injEq, Sum.inl.injEq] at ha; subst ha
    intro H locs cells slots ls hR hS hL h1 h2
    refine lv_ladd C.1 C.2.1 d ?_
    exact kk H locs cells slots ls hR hS hL h1 h2
  · cases ha
theorem pwI_lsub (C : pwCx K p l R s m args meth c mt) (d : decode mt.1.2.2 pc = .ok (.lsub, len)) (hk : pwChkL mt pc (.lsub) len r = true) (ha : pwAct1 (.lsub) len r mi pc L st g w = some (.inl x)) (kk : pwV K p l e R s m args below meth c Q k0 s0 mt x) : pwV K p l e R s m args below meth c Q k0 s0 mt (pc, L, st, g, w) := by
  have hlen : len = 1 := by simpa [pwChkL] using hk
  subst hlen
  simp only [pwAct1] at ha
  split at ha
  · simp only [pwGo, Option.some.injEq, Sum.inl.injEq] at ha; subst ha
    intro H locs cells slots ls hR hS hL h1 h2
    refine lv_lsub C.1 C.2.1 d ?_
    exact kk H locs cells slots ls hR hS hL h1 h2
  · cases ha
theorem pwI_lmul (C : pwCx K p l R s m args meth c mt) (d : decode mt.1.2.2 pc = .ok (.lmul, len)) (hk : pwChkL mt pc (.lmul) len r = true) (ha : pwAct1 (.lmul) len r mi pc L st g w = some (.inl x)) (kk : pwV K p l e R s m args below meth c Q k0 s0 mt x) : pwV K p l e R s m args below meth c Q k0 s0 mt (pc, L, st, g, w) := by
  have hlen : len = 1 := by simpa [pwChkL] using hk
  subst hlen
  simp only [pwAct1] at ha
  split at ha
  · simp only [pwGo, Option.some.injEq, Sum.inl.injEq] at ha; subst ha
    intro H locs cells slots ls hR hS hL h1 h2
    refine lv_lmul C.1 C.2.1 d ?_
    exact kk H locs cells slots ls hR hS hL h1 h2
  · cases ha
theorem pwI_land (C : pwCx K p l R s m args meth c mt) (d : decode mt.1.2.2 pc = .ok (.land, len)) (hk : pwChkL mt pc (.land) len r = true) (ha : pwAct1 (.land) len r mi pc L st g w = some (.inl x)) (kk : pwV K p l e R s m args below meth c Q k0 s0 mt x) : pwV K p l e R s m args below meth c Q k0 s0 mt (pc, L, st, g, w) := by
  have hlen : len = 1 := by simpa [pwChkL] using hk
  subst hlen
  simp only [pwAct1] at ha
  split at ha
  · simp only [pwGo, Option.some.injEq, Sum.inl.injEq] at ha; subst ha
    intro H locs cells slots ls hR hS hL h1 h2
    refine lv_land C.1 C.2.1 d ?_
    exact kk H locs cells slots ls hR hS hL h1 h2
  · cases ha
theorem pwI_lor (C : pwCx K p l R s m args meth c mt) (d : decode mt.1.2.2 pc = .ok (.lor, len)) (hk : pwChkL mt pc (.lor) len r = true) (ha : pwAct1 (.lor) len r mi pc L st g w = some (.inl x)) (kk : pwV K p l e R s m args below meth c Q k0 s0 mt x) : pwV K p l e R s m args below meth c Q k0 s0 mt (pc, L, st, g, w) := by
  have hlen : len = 1 := by simpa [pwChkL] using hk
  subst hlen
  simp only [pwAct1] at ha
  split at ha
  · simp only [pwGo, Option.some.injEq, Sum.inl.injEq] at ha; subst ha
    intro H locs cells slots ls hR hS hL h1 h2
    refine lv_lor C.1 C.2.1 d ?_
    exact kk H locs cells slots ls hR hS hL h1 h2
  · cases ha
theorem pwI_lshl (C : pwCx K p l R s m args meth c mt) (d : decode mt.1.2.2 pc = .ok (.lshl, len)) (hk : pwChkL mt pc (.lshl) len r = true) (ha : pwAct1 (.lshl) len r mi pc L st g w = some (.inl x)) (kk : pwV K p l e R s m args below meth c Q k0 s0 mt x) : pwV K p l e R s m args below meth c Q k0 s0 mt (pc, L, st, g, w) := by
  have hlen : len = 1 := by simpa [pwChkL] using hk
  subst hlen
  simp only [pwAct1] at ha
  split at ha
  · simp only [pwGo, Option.some.injEq, Sum.inl.injEq] at ha; subst ha
    intro H locs cells slots ls hR hS hL h1 h2
    refine lv_lshl C.1 C.2.1 d rfl ?_
    exact kk H locs cells slots ls hR hS hL h1 h2
  · cases ha
theorem pwI_lshr (C : pwCx K p l R s m args meth c mt) (d : decode mt.1.2.2 pc = .ok (.lshr, len)) (hk : pwChkL mt pc (.lshr) len r = true) (ha : pwAct1 (.lshr) len r mi pc L st g w = some (.inl x)) (kk : pwV K p l e R s m args below meth c Q k0 s0 mt x) : pwV K p l e R s m args below meth c Q k0 s0 mt (pc, L, st, g, w) := by
  have hlen : len = 1 := by simpa [pwChkL] using hk
  subst hlen
  simp only [pwAct1] at ha
  split at ha
  · simp only [pwGo, Option.some.injEq, Sum.inl.injEq] at ha; subst ha
    intro H locs cells slots ls hR hS hL h1 h2
    refine lv_lshr C.1 C.2.1 d rfl ?_
    exact kk H locs cells slots ls hR hS hL h1 h2
  · cases ha
theorem pwI_lushr (C : pwCx K p l R s m args meth c mt) (d : decode mt.1.2.2 pc = .ok (.lushr, len)) (hk : pwChkL mt pc (.lushr) len r = true) (ha : pwAct1 (.lushr) len r mi pc L st g w = some (.inl x)) (kk : pwV K p l e R s m args below meth c Q k0 s0 mt x) : pwV K p l e R s m args below meth c Q k0 s0 mt (pc, L, st, g, w) := by
  have hlen : len = 1 := by simpa [pwChkL] using hk
  subst hlen
  simp only [pwAct1] at ha
  split at ha
  · simp only [pwGo, Option.some.injEq, Sum.inl.injEq] at ha; subst ha
    intro H locs cells slots ls hR hS hL h1 h2
    refine lv_lushr C.1 C.2.1 d rfl ?_
    exact kk H locs cells slots ls hR hS hL h1 h2
  · cases ha
theorem pwI_i2l (C : pwCx K p l R s m args meth c mt) (d : decode mt.1.2.2 pc = .ok (.i2l, len)) (hk : pwChkL mt pc (.i2l) len r = true) (ha : pwAct1 (.i2l) len r mi pc L st g w = some (.inl x)) (kk : pwV K p l e R s m args below meth c Q k0 s0 mt x) : pwV K p l e R s m args below meth c Q k0 s0 mt (pc, L, st, g, w) := by
  have hlen : len = 1 := by simpa [pwChkL] using hk
  subst hlen
  simp only [pwAct1] at ha
  split at ha
  · simp only [pwGo, Option.some.injEq, Sum.inl.injEq] at ha; subst ha
    intro H locs cells slots ls hR hS hL h1 h2
    refine lv_i2l C.1 C.2.1 d rfl ?_
    exact kk H locs cells slots ls hR hS hL h1 h2
  · cases ha
theorem pwI_l2i (C : pwCx K p l R s m args meth c mt) (d : decode mt.1.2.2 pc = .ok (.l2i, len)) (hk : pwChkL mt pc (.l2i) len r = true) (ha : pwAct1 (.l2i) len r mi pc L st g w = some (.inl x)) (kk : pwV K p l e R s m args below meth c Q k0 s0 mt x) : pwV K p l e R s m args below meth c Q k0 s0 mt (pc, L, st, g, w) := by
  have hlen : len = 1 := by simpa [pwChkL] using hk
  subst hlen
  simp only [pwAct1] at ha
  split at ha
  · simp only [pwGo, Option.some.injEq, Sum.inl.injEq] at ha; subst ha
    intro H locs cells slots ls hR hS hL h1 h2
    refine lv_l2i C.1 C.2.1 d rfl ?_
    exact kk H locs cells slots ls hR hS hL h1 h2
  · cases ha
theorem pwI_lneg (C : pwCx K p l R s m args meth c mt) (d : decode mt.1.2.2 pc = .ok (.lneg, len)) (hk : pwChkL mt pc (.lneg) len r = true) (ha : pwAct1 (.lneg) len r mi pc L st g w = some (.inl x)) (kk : pwV K p l e R s m args below meth c Q k0 s0 mt x) : pwV K p l e R s m args below meth c Q k0 s0 mt (pc, L, st, g, w) := by
  have hlen : len = 1 := by simpa [pwChkL] using hk
  subst hlen
  simp only [pwAct1] at ha
  split at ha
  · simp only [pwGo, Option.some.injEq, Sum.inl.injEq] at ha; subst ha
    intro H locs cells slots ls hR hS hL h1 h2
    refine lv_lneg C.1 C.2.1 d ?_
    exact kk H locs cells slots ls hR hS hL h1 h2
  · cases ha
theorem pwI_lcmp (C : pwCx K p l R s m args meth c mt) (d : decode mt.1.2.2 pc = .ok (.lcmp, len)) (hk : pwChkL mt pc (.lcmp) len r = true) (ha : pwAct1 (.lcmp) len r mi pc L st g w = some (.inl x)) (kk : pwV K p l e R s m args below meth c Q k0 s0 mt x) : pwV K p l e R s m args below meth c Q k0 s0 mt (pc, L, st, g, w) := by
  have hlen : len = 1 := by simpa [pwChkL] using hk
  subst hlen
  simp only [pwAct1] at ha
  split at ha
  · simp only [pwGo, Option.some.injEq, Sum.inl.injEq] at ha; subst ha
    intro H locs cells slots ls hR hS hL h1 h2
    refine W.lcmp C.1 C.2.1 d ?_
    exact kk H locs cells slots ls hR hS hL h1 h2
  · cases ha
theorem pwI_idiv (C : pwCx K p l R s m args meth c mt) (d : decode mt.1.2.2 pc = .ok (.idiv, len)) (hk : pwChkL mt pc (.idiv) len r = true) (ha : pwAct1 (.idiv) len r mi pc L st g w = some (.inl x)) (kk : pwV K p l e R s m args below meth c Q k0 s0 mt x) : pwV K p l e R s m args below meth c Q k0 s0 mt (pc, L, st, g, w) := by
  have hlen : len = 1 := by simpa [pwChkL] using hk
  subst hlen
  simp only [pwAct1] at ha
  split at ha
  · split at ha
    · cases ha
    · rename_i hne
      simp only [pwGo, Option.some.injEq, Sum.inl.injEq] at ha; subst ha
      intro H locs cells slots ls hR hS hL h1 h2
      refine lv_idiv C.1 C.2.1 d hne ?_
      exact kk H locs cells slots ls hR hS hL h1 h2
  · cases ha
theorem pwI_irem (C : pwCx K p l R s m args meth c mt) (d : decode mt.1.2.2 pc = .ok (.irem, len)) (hk : pwChkL mt pc (.irem) len r = true) (ha : pwAct1 (.irem) len r mi pc L st g w = some (.inl x)) (kk : pwV K p l e R s m args below meth c Q k0 s0 mt x) : pwV K p l e R s m args below meth c Q k0 s0 mt (pc, L, st, g, w) := by
  have hlen : len = 1 := by simpa [pwChkL] using hk
  subst hlen
  simp only [pwAct1] at ha
  split at ha
  · split at ha
    · cases ha
    · rename_i hne
      simp only [pwGo, Option.some.injEq, Sum.inl.injEq] at ha; subst ha
      intro H locs cells slots ls hR hS hL h1 h2
      refine lv_irem C.1 C.2.1 d hne ?_
      exact kk H locs cells slots ls hR hS hL h1 h2
  · cases ha
theorem pwI_ldiv (C : pwCx K p l R s m args meth c mt) (d : decode mt.1.2.2 pc = .ok (.ldiv, len)) (hk : pwChkL mt pc (.ldiv) len r = true) (ha : pwAct1 (.ldiv) len r mi pc L st g w = some (.inl x)) (kk : pwV K p l e R s m args below meth c Q k0 s0 mt x) : pwV K p l e R s m args below meth c Q k0 s0 mt (pc, L, st, g, w) := by
  have hlen : len = 1 := by simpa [pwChkL] using hk
  subst hlen
  simp only [pwAct1] at ha
  split at ha
  · split at ha
    · cases ha
    · rename_i hne
      simp only [pwGo, Option.some.injEq, Sum.inl.injEq] at ha; subst ha
      intro H locs cells slots ls hR hS hL h1 h2
      refine lv_ldiv C.1 C.2.1 d hne ?_
      exact kk H locs cells slots ls hR hS hL h1 h2
  · cases ha
theorem pwI_lrem (C : pwCx K p l R s m args meth c mt) (d : decode mt.1.2.2 pc = .ok (.lrem, len)) (hk : pwChkL mt pc (.lrem) len r = true) (ha : pwAct1 (.lrem) len r mi pc L st g w = some (.inl x)) (kk : pwV K p l e R s m args below meth c Q k0 s0 mt x) : pwV K p l e R s m args below meth c Q k0 s0 mt (pc, L, st, g, w) := by
  have hlen : len = 1 := by simpa [pwChkL] using hk
  subst hlen
  simp only [pwAct1] at ha
  split at ha
  · split at ha
    · cases ha
    · rename_i hne
      simp only [pwGo, Option.some.injEq, Sum.inl.injEq] at ha; subst ha
      intro H locs cells slots ls hR hS hL h1 h2
      refine lv_lrem C.1 C.2.1 d hne ?_
      exact kk H locs cells slots ls hR hS hL h1 h2
  · cases ha
theorem pwI_goto (C : pwCx K p l R s m args meth c mt) {o : Int} (d : decode mt.1.2.2 pc = .ok (.goto o, len)) (hk : pwChkL mt pc (.goto o) len r = true) (ha : pwAct1 (.goto o) len r mi pc L st g w = some (.inl x)) (kk : pwV K p l e R s m args below meth c Q k0 s0 mt x) : pwV K p l e R s m args below meth c Q k0 s0 mt (pc, L, st, g, w) := by
  simp only [pwChkL, Bool.and_eq_true, Nat.beq_eq, decide_eq_true_eq] at hk
  obtain ⟨hlen, ht⟩ := hk
  subst hlen
  simp only [pwAct1] at ha
  simp only [pwGo, Option.some.injEq, Sum.inl.injEq] at ha; subst ha
  intro H locs cells slots ls hR hS hL h1 h2
  refine lv_goto C.1 C.2.1 d ht ?_
  exact kk H locs cells slots ls hR hS hL h1 h2
theorem pwI_ifCond_eq (C : pwCx K p l R s m args meth c mt) {o : Int} (d : decode mt.1.2.2 pc = .ok (.ifCond .eq o, len)) (hk : pwChkL mt pc (.ifCond .eq o) len r = true) (ha : pwAct1 (.ifCond .eq o) len r mi pc L st g w = some (.inl x)) (kk : pwV K p l e R s m args below meth c Q k0 s0 mt x) : pwV K p l e R s m args below meth c Q k0 s0 mt (pc, L, st, g, w) := by
  simp only [pwChkL, Bool.and_eq_true, Nat.beq_eq, decide_eq_true_eq] at hk
  obtain ⟨hlen, ht⟩ := hk
  subst hlen
  simp only [pwAct1] at ha
  split at ha
  · split at ha
    · rename_i hc
      simp only [pwGo, Option.some.injEq, Sum.inl.injEq] at ha; subst ha
      intro H locs cells slots ls hR hS hL h1 h2
      refine lv_if_eq C.1 C.2.1 d ht (fun h => ?_) (fun h => ?_)
      · first | exact absurd h hc | exact absurd hc h | exact kk H locs cells slots ls hR hS hL h1 h2
      · first | exact absurd h hc | exact absurd hc h | exact kk H locs cells slots ls hR hS hL h1 h2
    · rename_i hc
      simp only [pwGo, Option.some.injEq, Sum.inl.injEq] at ha; subst ha
      intro H locs cells slots ls hR hS hL h1 h2
      refine lv_if_eq C.1 C.2.1 d ht (fun h => ?_) (fun h => ?_)
      · first | exact absurd h hc | exact absurd hc h | exact kk H locs cells slots ls hR hS hL h1 h2
      · first | exact absurd h hc | exact absurd hc h | exact kk H locs cells slots ls hR hS hL h1 h2
  · cases ha
theorem pwI_ifCond_ne (C : pwCx K p l R s m args meth c mt) {o : Int} (d : decode mt.1.2.2 pc = .ok (.ifCond .ne o, len)) (hk : pwChkL mt pc (.ifCond .ne o) len r = true) (ha : pwAct1 (.ifCond .ne o) len r mi pc L st g w = some (.inl x)) (kk : pwV K p l e R s m args below meth c Q k0 s0 mt x) : pwV K p l e R s m args below meth c Q k0 s0 mt (pc, L, st, g, w) := by
  simp only [pwChkL, Bool.and_eq_true, Nat.beq_eq, decide_eq_true_eq] at hk
  obtain ⟨hlen, ht⟩ := hk
  subst hlen
  simp only [pwAct1] at ha
  split at ha
  · split at ha
    · rename_i hc
      simp only [pwGo, Option.some.injEq, Sum.inl.injEq] at ha; subst ha
      intro H locs cells slots ls hR hS hL h1 h2
      refine lv_if_ne C.1 C.2.1 d ht (fun h => ?_) (fun h => ?_)
      · first | exact absurd h hc | exact absurd hc h | exact kk H locs cells slots ls hR hS hL h1 h2
      · first | exact absurd h hc | exact absurd hc h | exact kk H locs cells slots ls hR hS hL h1 h2
    · rename_i hc
      simp only [pwGo, Option.some.injEq, Sum.inl.injEq] at ha; subst ha
      intro H locs cells slots ls hR hS hL h1 h2
      refine lv_if_ne C.1 C.2.1 d ht (fun h => ?_) (fun h => ?_)
      · first | exact absurd h hc | exact absurd hc h | exact kk H locs cells slots ls hR hS hL h1 h2
      · first | exact absurd h hc | exact absurd hc h | exact kk H locs cells slots ls hR hS hL h1 h2
  · cases ha
theorem pwI_ifCond_lt (C : pwCx K p l R s m args meth c mt) {o : Int} (d : decode mt.1.2.2 pc = .ok (.ifCond .lt o, len)) (hk : pwChkL mt pc (.ifCond .lt o) len r = true) (ha : pwAct1 (.ifCond .lt o) len r mi pc L st g w = some (.inl x)) (kk : pwV K p l e R s m args below meth c Q k0 s0 mt x) : pwV K p l e R s m args below meth c Q k0 s0 mt (pc, L, st, g, w) := by
  simp only [pwChkL, Bool.and_eq_true, Nat.beq_eq, decide_eq_true_eq] at hk
  obtain ⟨hlen, ht⟩ := hk
  subst hlen
  simp only [pwAct1] at ha
  split at ha
  · split at ha
    · rename_i hc
      simp only [pwGo, Option.some.injEq, Sum.inl.injEq] at ha; subst ha
      intro H locs cells slots ls hR hS hL h1 h2
      refine lv_if_lt C.1 C.2.1 d ht (fun h => ?_) (fun h => ?_)
      · first | exact absurd h hc | exact absurd hc h | exact kk H locs cells slots ls hR hS hL h1 h2
      · first | exact absurd h hc | exact absurd hc h | exact kk H locs cells slots ls hR hS hL h1 h2
    · rename_i hc
      simp only [pwGo, Option.some.injEq, Sum.inl.injEq] at ha; subst ha
      intro H locs cells slots ls hR hS hL h1 h2
      refine lv_if_lt C.1 C.2.1 d ht (fun h => ?_) (fun h => ?_)
      · first | exact absurd h hc | exact absurd hc h | exact kk H locs cells slots ls hR hS hL h1 h2
      · first | exact absurd h hc | exact absurd hc h | exact kk H locs cells slots ls hR hS hL h1 h2
  · cases ha
theorem pwI_ifCond_ge (C : pwCx K p l R s m args meth c mt) {o : Int} (d : decode mt.1.2.2 pc = .ok (.ifCond .ge o, len)) (hk : pwChkL mt pc (.ifCond .ge o) len r = true) (ha : pwAct1 (.ifCond .ge o) len r mi pc L st g w = some (.inl x)) (kk : pwV K p l e R s m args below meth c Q k0 s0 mt x) : pwV K p l e R s m args below meth c Q k0 s0 mt (pc, L, st, g, w) := by
  simp only [pwChkL, Bool.and_eq_true, Nat.beq_eq, decide_eq_true_eq] at hk
  obtain ⟨hlen, ht⟩ := hk
  subst hlen
  simp only [pwAct1] at ha
  split at ha
  · split at ha
    · rename_i hc
      simp only [pwGo, Option.some.injEq, Sum.inl.injEq] at ha; subst ha
      intro H locs cells slots ls hR hS hL h1 h2
      refine lv_if_ge C.1 C.2.1 d ht (fun h => ?_) (fun h => ?_)
      · first | exact absurd h hc | exact absurd hc h | exact kk H locs cells slots ls hR hS hL h1 h2
      · first | exact absurd h hc | exact absurd hc h | exact kk H locs cells slots ls hR hS hL h1 h2
    · rename_i hc
      simp only [pwGo, Option.some.injEq, Sum.inl.injEq] at ha; subst ha
      intro H locs cells slots ls hR hS hL h1 h2
      refine lv_if_ge C.1 C.2.1 d ht (fun h => ?_) (fun h => ?_)
      · first | exact absurd h hc | exact absurd hc h | exact kk H locs cells slots ls hR hS hL h1 h2
      · first | exact absurd h hc | exact absurd hc h | exact kk H locs cells slots ls hR hS hL h1 h2
  · cases ha
theorem pwI_ifCond_gt (C : pwCx K p l R s m args meth c mt) {o : Int} (d : decode mt.1.2.2 pc = .ok (.ifCond .gt o, len)) (hk : pwChkL mt pc (.ifCond .gt o) len r = true) (ha : pwAct1 (.ifCond .gt o) len r mi pc L st g w = some (.inl x)) (kk : pwV K p l e R s m args below meth c Q k0 s0 mt x) : pwV K p l e R s m args below meth c Q k0 s0 mt (pc, L, st, g, w) := by
  simp only [pwChkL, Bool.and_eq_true, Nat.beq_eq, decide_eq_true_eq] at hk
  obtain ⟨hlen, ht⟩ := hk
  subst hlen
  simp only [pwAct1] at ha
  split at ha
  · split at ha
    · rename_i hc
      simp only [pwGo, Option.some.injEq, Sum.inl.injEq] at ha; subst ha
      intro H locs cells slots ls hR hS hL h1 h2
      refine lv_if_gt C.1 C.2.1 d ht (fun h => ?_) (fun h => ?_)
      · first | exact absurd h hc | exact absurd hc h | exact kk H locs cells slots ls hR hS hL h1 h2
      · first | exact absurd h hc | exact absurd hc h | exact kk H locs cells slots ls hR hS hL h1 h2
    · rename_i hc
      simp only [pwGo, Option.some.injEq, Sum.inl.injEq] at ha; subst ha
      intro H locs cells slots ls hR hS hL h1 h2
      refine lv_if_gt C.1 C.2.1 d ht (fun h => ?_) (fun h => ?_)
      · first | exact absurd h hc | exact absurd hc h | exact kk H locs cells slots ls hR hS hL h1 h2
      · first | exact absurd h hc | exact absurd hc h | exact kk H locs cells slots ls hR hS hL h1 h2
  · cases ha
theorem pwI_ifCond_le (C : pwCx K p l R s m args meth c mt) {o : Int} (d : decode mt.1.2.2 pc = .ok (.ifCond .le o, len)) (hk : pwChkL mt pc (.ifCond .le o) len r = true) (ha : pwAct1 (.ifCond .le o) len r mi pc L st g w = some (.inl x)) (kk : pwV K p l e R s m args below meth c Q k0 s0 mt x) : pwV K p l e R s m args below meth c Q k0 s0 mt (pc, L, st, g, w) := by
  simp only [pwChkL, Bool.and_eq_true, Nat.beq_eq, decide_eq_true_eq] at hk
  obtain ⟨hlen, ht⟩ := hk
  subst hlen
  simp only [pwAct1] at ha
  split at ha
  · split at ha
    · rename_i hc
      simp only [pwGo, Option.some.injEq, Sum.inl.injEq] at ha; subst ha
      intro H locs cells slots ls hR hS hL h1 h2
      refine lv_if_le C.1 C.2.1 d ht (fun h => ?_) (fun h => ?_)
      · first | exact absurd h hc | exact absurd hc h | exact kk H locs cells slots ls hR hS hL h1 h2
      · first | exact absurd h hc | exact absurd hc h | exact kk H locs cells slots ls hR hS hL h1 h2
    · rename_i hc
      simp only [pwGo, Option.some.injEq, Sum.inl.injEq] at ha; subst ha
      intro H locs cells slots ls hR hS hL h1 h2
      refine lv_if_le C.1 C.2.1 d ht (fun h => ?_) (fun h => ?_)
      · first | exact absurd h hc | exact absurd hc h | exact kk H locs cells slots ls hR hS hL h1 h2
      · first | exact absurd h hc | exact absurd hc h | exact kk H locs cells slots ls hR hS hL h1 h2
  · cases ha
theorem pwI_if_icmp_eq (C : pwCx K p l R s m args meth c mt) {o : Int} (d : decode mt.1.2.2 pc = .ok (.if_icmp .eq o, len)) (hk : pwChkL mt pc (.if_icmp .eq o) len r = true) (ha : pwAct1 (.if_icmp .eq o) len r mi pc L st g w = some (.inl x)) (kk : pwV K p l e R s m args below meth c Q k0 s0 mt x) : pwV K p l e R s m args below meth c Q k0 s0 mt (pc, L, st, g, w) := by
  simp only [pwChkL, Bool.and_eq_true, Nat.beq_eq, decide_eq_true_eq] at hk
  obtain ⟨hlen, ht⟩ := hk
  subst hlen
  simp only [pwAct1] at ha
  split at ha
  · split at ha
    · rename_i hc
      simp only [pwGo, Option.some.injEq, Sum.inl.injEq] at ha; subst ha
      intro H locs cells slots ls hR hS hL h1 h2
      refine lv_icmp_eq C.1 C.2.1 d ht (fun h => ?_) (fun h => ?_)
      · first | exact absurd h hc | exact absurd hc h | exact kk H locs cells slots ls hR hS hL h1 h2
      · first | exact absurd h hc | exact absurd hc h | exact kk H locs cells slots ls hR hS hL h1 h2
    · rename_i hc
      simp only [pwGo, Option.some.injEq, Sum.inl.injEq] at ha; subst ha
      intro H locs cells slots ls hR hS hL h1 h2
      refine lv_icmp_eq C.1 C.2.1 d ht (fun h => ?_) (fun h => ?_)
      · first | exact absurd h hc | exact absurd hc h | exact kk H locs cells slots ls hR hS hL h1 h2
      · first | exact absurd h hc | exact absurd hc h | exact kk H locs cells slots ls hR hS hL h1 h2
  · cases ha
theorem pwI_if_icmp_ne (C : pwCx K p l R s m args meth c mt) {o : Int} (d : decode mt.1.2.2 pc = .ok (.if_icmp .ne o, len)) (hk : pwChkL mt pc (.if_icmp .ne o) len r = true) (ha : pwAct1 (.if_icmp .ne o) len r mi pc L st g w = some (.inl x)) (kk : pwV K p l e R s m args below meth c Q k0 s0 mt x) : pwV K p l e R s m args below meth c Q k0 s0 mt (pc, L, st, g, w) := by
  simp only [pwChkL, Bool.and_eq_true, Nat.beq_eq, decide_eq_true_eq] at hk
  obtain ⟨hlen, ht⟩ := hk
  subst hlen
  simp only [pwAct1] at ha
  split at ha
  · split at ha
    · rename_i hc
      simp only [pwGo, Option.some.injEq, Sum.inl.injEq] at ha; subst ha
      intro H locs cells slots ls hR hS hL h1 h2
      refine lv_icmp_ne C.1 C.2.1 d ht (fun h => ?_) (fun h => ?_)
      · first | exact absurd h hc | exact absurd hc h | exact kk H locs cells slots ls hR hS hL h1 h2
      · first | exact absurd h hc | exact absurd hc h | exact kk H locs cells slots ls hR hS hL h1 h2
    · rename_i hc
      simp only [pwGo, Option.some.injEq, Sum.inl.injEq] at ha; subst ha
      intro H locs cells slots ls hR hS hL h1 h2
      refine lv_icmp_ne C.1 C.2.1 d ht (fun h => ?_) (fun h => ?_)
      · first | exact absurd h hc | exact absurd hc h | exact kk H locs cells slots ls hR hS hL h1 h2
      · first | exact absurd h hc | exact absurd hc h | exact kk H locs cells slots ls hR hS hL h1 h2
  · cases ha
theorem pwI_if_icmp_lt (C : pwCx K p l R s m args meth c mt) {o : Int} (d : decode mt.1.2.2 pc = .ok (.if_icmp .lt o, len)) (hk : pwChkL mt pc (.if_icmp .lt o) len r = true) (ha : pwAct1 (.if_icmp .lt o) len r mi pc L st g w = some (.inl x)) (kk : pwV K p l e R s m args below meth c Q k0 s0 mt x) : pwV K p l e R s m args below meth c Q k0 s0 mt (pc, L, st, g, w) := by
  simp only [pwChkL, Bool.and_eq_true, Nat.beq_eq, decide_eq_true_eq] at hk
  obtain ⟨hlen, ht⟩ := hk
  subst hlen
  simp only [pwAct1] at ha
  split at ha
  · split at ha
    · rename_i hc
      simp only [pwGo, Option.some.injEq, Sum.inl.injEq] at ha; subst ha
      intro H locs cells slots ls hR hS hL h1 h2
      refine lv_icmp_lt C.1 C.2.1 d ht (fun h => ?_) (fun h => ?_)
      · first | exact absurd h hc | exact absurd hc h | exact kk H locs cells slots ls hR hS hL h1 h2
      · first | exact absurd h hc | exact absurd hc h | exact kk H locs cells slots ls hR hS hL h1 h2
    · rename_i hc
      simp only [pwGo, Option.some.injEq, Sum.inl.injEq] at ha; subst ha
      intro H locs cells slots ls hR hS hL h1 h2
      refine lv_icmp_lt C.1 C.2.1 d ht (fun h => ?_) (fun h => ?_)
      · first | exact absurd h hc | exact absurd hc h | exact kk H locs cells slots ls hR hS hL h1 h2
      · first | exact absurd h hc | exact absurd hc h | exact kk H locs cells slots ls hR hS hL h1 h2
  · cases ha
theorem pwI_if_icmp_ge (C : pwCx K p l R s m args meth c mt) {o : Int} (d : decode mt.1.2.2 pc = .ok (.if_icmp .ge o, len)) (hk : pwChkL mt pc (.if_icmp .ge o) len r = true) (ha : pwAct1 (.if_icmp .ge o) len r mi pc L st g w = some (.inl x)) (kk : pwV K p l e R s m args below meth c Q k0 s0 mt x) : pwV K p l e R s m args below meth c Q k0 s0 mt (pc, L, st, g, w) := by
  simp only [pwChkL, Bool.and_eq_true, Nat.beq_eq, decide_eq_true_eq] at hk
  obtain ⟨hlen, ht⟩ := hk
  subst hlen
  simp only [pwAct1] at ha
  split at ha
  · split at ha
    · rename_i hc
      simp only [pwGo, Option.some.injEq, Sum.inl.injEq] at ha; subst ha
      intro H locs cells slots ls hR hS hL h1 h2
      refine lv_icmp_ge C.1 C.2.1 d ht (fun h => ?_) (fun h => ?_)
      · first | exact absurd h hc | exact absurd hc h | exact kk H locs cells slots ls hR hS hL h1 h2
      · first | exact absurd h hc | exact absurd hc h | exact kk H locs cells slots ls hR hS hL h1 h2
    · rename_i hc
      simp only [pwGo, Option.some.injEq, Sum.inl.injEq] at ha; subst ha
      intro H locs cells slots ls hR hS hL h1 h2
      refine lv_icmp_ge C.1 C.2.1 d ht (fun h => ?_) (fun h => ?_)
      · first | exact absurd h hc | exact absurd hc h | exact kk H locs cells slots ls hR hS hL h1 h2
      · first | exact absurd h hc | exact absurd hc h | exact kk H locs cells slots ls hR hS hL h1 h2
  · cases ha
theorem pwI_if_icmp_gt (C : pwCx K p l R s m args meth c mt) {o : Int} (d : decode mt.1.2.2 pc = .ok (.if_icmp .gt o, len)) (hk : pwChkL mt pc (.if_icmp .gt o) len r = true) (ha : pwAct1 (.if_icmp .gt o) len r mi pc L st g w = some (.inl x)) (kk : pwV K p l e R s m args below meth c Q k0 s0 mt x) : pwV K p l e R s m args below meth c Q k0 s0 mt (pc, L, st, g, w) := by
  simp only [pwChkL, Bool.and_eq_true, Nat.beq_eq, decide_eq_true_eq] at hk
  obtain ⟨hlen, ht⟩ := hk
  subst hlen
  simp only [pwAct1] at ha
  split at ha
  · split at ha
    · rename_i hc
      simp only [pwGo, Option.some.injEq, Sum.inl.injEq] at ha; subst ha
      intro H locs cells slots ls hR hS hL h1 h2
      refine lv_icmp_gt C.1 C.2.1 d ht (fun h => ?_) (fun h => ?_)
      · first | exact absurd h hc | exact absurd hc h | exact kk H locs cells slots ls hR hS hL h1 h2
      · first | exact absurd h hc | exact absurd hc h | exact kk H locs cells slots ls hR hS hL h1 h2
    · rename_i hc
      simp only [pwGo, Option.some.injEq, Sum.inl.injEq] at ha; subst ha
      intro H locs cells slots ls hR hS hL h1 h2
      refine lv_icmp_gt C.1 C.2.1 d ht (fun h => ?_) (fun h => ?_)
      · first | exact absurd h hc | exact absurd hc h | exact kk H locs cells slots ls hR hS hL h1 h2
      · first | exact absurd h hc | exact absurd hc h | exact kk H locs cells slots ls hR hS hL h1 h2
  · cases ha
theorem pwI_if_icmp_le (C : pwCx K p l R s m args meth c mt) {o : Int} (d : decode mt.1.2.2 pc = .ok (.if_icmp .le o, len)) (hk : pwChkL mt pc (.if_icmp .le o) len r = true) (ha : pwAct1 (.if_icmp .le o) len r mi pc L st g w = some (.inl x)) (kk : pwV K p l e R s m args below meth c Q k0 s0 mt x) : pwV K p l e R s m args below meth c Q k0 s0 mt (pc, L, st, g, w) := by
  simp only [pwChkL, Bool.and_eq_true, Nat.beq_eq, decide_eq_true_eq] at hk
  obtain ⟨hlen, ht⟩ := hk
  subst hlen
  simp only [pwAct1] at ha
  split at ha
  · split at ha
    · rename_i hc
      simp only [pwGo, Option.some.injEq, Sum.inl.injEq] at ha; subst ha
      intro H locs cells slots ls hR hS hL h1 h2
      refine lv_icmp_le C.1 C.2.1 d ht (fun h => ?_) (fun h => ?_)
      · first | exact absurd h hc | exact absurd hc h | exact kk H locs cells slots ls hR hS hL h1 h2
      · first | exact absurd h hc | exact absurd hc h | exact kk H locs cells slots ls hR hS hL h1 h2
    · rename_i hc
      simp only [pwGo, Option.some.injEq, Sum.inl.injEq] at ha; subst ha
      intro H locs cells slots ls hR hS hL h1 h2
      refine lv_icmp_le C.1 C.2.1 d ht (fun h => ?_) (fun h => ?_)
      · first | exact absurd h hc | exact absurd hc h | exact kk H locs cells slots ls hR hS hL h1 h2
      · first | exact absurd h hc | exact absurd hc h | exact kk H locs cells slots ls hR hS hL h1 h2
  · cases ha
theorem pwI_ifnull (C : pwCx K p l R s m args meth c mt) {o : Int} (d : decode mt.1.2.2 pc = .ok (.ifnull o, len)) (hk : pwChkL mt pc (.ifnull o) len r = true) (ha : pwAct1 (.ifnull o) len r mi pc L st g w = some (.inl x)) (kk : pwV K p l e R s m args below meth c Q k0 s0 mt x) : pwV K p l e R s m args below meth c Q k0 s0 mt (pc, L, st, g, w) := by
  simp only [pwChkL, Bool.and_eq_true, Nat.beq_eq, decide_eq_true_eq] at hk
  obtain ⟨hlen, ht⟩ := hk
  subst hlen
  simp only [pwAct1] at ha
  split at ha
  · simp only [pwGo, Option.some.injEq, Sum.inl.injEq] at ha; subst ha
    intro H locs cells slots ls hR hS hL h1 h2
    refine lv_ifnull C.1 C.2.1 d ?_
    exact kk H locs cells slots ls hR hS hL h1 h2
  · cases ha
theorem pwI_ifnonnull (C : pwCx K p l R s m args meth c mt) {o : Int} (d : decode mt.1.2.2 pc = .ok (.ifnonnull o, len)) (hk : pwChkL mt pc (.ifnonnull o) len r = true) (ha : pwAct1 (.ifnonnull o) len r mi pc L st g w = some (.inl x)) (kk : pwV K p l e R s m args below meth c Q k0 s0 mt x) : pwV K p l e R s m args below meth c Q k0 s0 mt (pc, L, st, g, w) := by
  simp only [pwChkL, Bool.and_eq_true, Nat.beq_eq, decide_eq_true_eq] at hk
  obtain ⟨hlen, ht⟩ := hk
  subst hlen
  simp only [pwAct1] at ha
  split at ha
  · simp only [pwGo, Option.some.injEq, Sum.inl.injEq] at ha; subst ha
    intro H locs cells slots ls hR hS hL h1 h2
    refine lv_ifnonnull C.1 C.2.1 d ht ?_
    exact kk H locs cells slots ls hR hS hL h1 h2
  · cases ha
end PWI

/-! from the law's entry to the small machine -/
def pwRows : List (String × List Int32) := [("OF_WALKER", [1, 0, 25]), ("OF_STREET", [2, 2, 20, 2, 1, 20, 2, 0, 20, 1, 1, 6]), ("OF_SHIFT", [1, 0, 3, 2, 0, 39]), ("OF_RULE", [1, 0, 3]), ("OF_MIXING", [1, 0, 1]), ("OF_EXCHANGE", [1, 0, 9, 1, 0, 9]), ("OF_TICKS", [2, 1, 99]), ("OF_NO_COMMAND", [])]
def pwNar : List Jvm.Cond := flatC (Jvm.Cond.and given_1 narrow_1)
def pwRowT (nm : String) : Jvm.Term := .static pwR_X6 nm "[I"
def pwRowW (q9 : String × List Int32) : List Jvm.Cond :=
  [.arrayOf (pwRowT q9.1) .int, .eq (.length (pwRowT q9.1)) (.int (Int32.ofNat q9.2.length)), .not (.eq (.arg 0) (pwRowT q9.1))] ++ (List.range q9.2.length).map fun j => .eq (.elem (pwRowT q9.1) (.int (Int32.ofNat j))) (.int (q9.2.getD j 0))
theorem pwRow_in : ∀ q9 ∈ pwRows, ∀ wz ∈ pwRowW q9, wz ∈ pwNar := by decide +kernel
theorem pwRow_ly : ∀ q9 ∈ pwRows, Jvm.Cond.laysStatic pwR_X6 q9.1 "[I" ∈ lw_tbl := by decide +kernel
theorem pwRow_ln : ∀ q9 ∈ pwRows, q9.2.length < 2 ^ 31 := by decide +kernel
theorem pwRow_nm : pwSt = pwRows.map Prod.fst := rfl
theorem pwRow_df : ∀ a9 : Fin 8, ∀ b9 : Fin 8, (pwRows[a9.1]?).map Prod.snd = (pwRows[b9.1]?).map Prod.snd → a9 = b9 := by decide +kernel
theorem pwNar_ex : ∀ C9 ∈ pwEx, ∀ T9 ∈ pwEx, C9 ≠ T9 → Jvm.Cond.not (.castable C9 T9) ∈ pwNar := by decide +kernel
def pwStrOk (wz : Jvm.Cond) : Bool := match wz with
  | .stringRef o9 k9 _ => decide (Jvm.Cond.exactly (.string o9 k9) "java/lang/String" ∈ pwNar)
  | _ => true
theorem pwNar_st : lw_tbl.all pwStrOk = true := by decide +kernel
theorem pwHA (N9 : Nat) : ∀ a9 : Nat, a9 < N9 → ¬ pwA N9 a9 := fun a9 h1 h2 => by unfold pwA at h2; omega
theorem pwRow_of {args : Array Value} {s : State} (hx : ∀ wz ∈ pwNar, wz.before args s = true) (hts : ∀ wz ∈ lw_tbl, wz.before args s = true) {q9 : String × List Int32} (hq : q9 ∈ pwRows) : ∃ t9 : Nat, (pwRowT q9.1).eval args s none [] s = some (.ref t9) ∧ va_T .int t9 q9.2.length (fun j => .int (q9.2.getD j 0)) (pwA s.heap.size) s s.heap ∧ va_Z pwR_X6 q9.1 "[I" (.ref t9) (pwA s.heap.size) s s.heap ∧ t9 < s.heap.size := by
  have hin := fun wz h9 => hx wz (pwRow_in q9 hq wz h9)
  have hA := pwHA s.heap.size
  obtain ⟨t9, h1, h2⟩ := va_Tof (tm := pwRowT q9.1) (ty := .int) (N := q9.2.length) (f := fun j => .int (q9.2.getD j 0)) (A := pwA s.heap.size) (pwRow_ln q9 hq) (hin _ (List.mem_append_left _ (List.mem_cons_self))) (va_eqt (hin _ (List.mem_append_left _ (List.mem_cons_of_mem _ List.mem_cons_self)))) (fun j hj => va_eqt (hin _ (List.mem_append_right _ (List.mem_map.mpr ⟨j, List.mem_range.mpr hj, rfl⟩)))) hA
  refine ⟨t9, h1, h2, va_Zref (hts _ (pwRow_ly q9 hq)) (hts (.initialized pwR_X6) (by decide +kernel)) h1 hA, ?_⟩
  obtain ⟨cell9, c1, -⟩ := h2
  exact (Array.getElem?_eq_some_iff.mp c1).1
theorem pwRow_eq {U : State} {A9 : Nat → Prop} {u9 v9 : List Int32} {t9 : Nat} (hu : u9.length < 2 ^ 31) (hv : v9.length < 2 ^ 31) (h1 : va_T .int t9 u9.length (fun j => .int (u9.getD j 0)) A9 U U.heap) (h2 : va_T .int t9 v9.length (fun j => .int (v9.getD j 0)) A9 U U.heap) : u9 = v9 := by
  obtain ⟨c1, a1, -, -, a4, a5, a6, -⟩ := h1
  obtain ⟨c2, b1, -, -, b4, b5, b6, -⟩ := h2
  cases a1.symm.trans b1
  have hl : u9.length = v9.length := by
    have h := congrArg Int32.toNatClampNeg (a5.symm.trans b5)
    rw [Int32.toNatClampNeg_ofNat_of_lt hu, Int32.toNatClampNeg_ofNat_of_lt hv] at h
    exact h
  refine List.ext_getElem hl fun j g1 g2 => ?_
  have h := Value.int.inj (Option.some.inj ((a6 j g1).symm.trans (b6 j g2)))
  simpa [List.getD_eq_getElem?_getD, g1, g2] using h
/-- what the pure part owes -/
def pwPure : Prop := ∀ (so : Nat → Nat) (b L N0 : Nat) (xs : Nat → Int32) (w : pwW), L ≤ 260 → b < N0 → (∀ j, j < 8 → so j < N0) → w b = .inl (4, L, .inl xs) → (∀ (j : Nat) (q9 : String × List Int32), pwRows[j]? = some q9 → w (so j) = .inl (4, q9.2.length, .inl fun i => q9.2.getD i 0)) → ∃ (g1 : pwG) (w1 : pwW), pwX so 163 0 (pwPad 7 (pwMkl [.ref b])) [] (N0, 0, 0, 0) w = some (.inl (some (.int 1)), g1, w1) ∧ g1.2.2.1 ≤ 743554 ∧ g1.2.2.2 ≤ 6870961
/-- the world of the start -/
def pwW0 (so : Nat → Nat) (b L : Nat) (xs : Nat → Int32) : pwW := fun a9 =>
  if a9 = b then .inl (4, L, .inl xs) else
  match (List.range 8).find? (fun j => Nat.beq (so j) a9) with
  | some j => (match pwRows[j]? with
    | some q9 => .inl (4, q9.2.length, .inl fun i => q9.2.getD i 0)
    | none => .inl (9, 0, .inl fun _ => 0))
  | none => .inl (9, 0, .inl fun _ => 0)
theorem pwW0_cases (so : Nat → Nat) (b L : Nat) (xs : Nat → Int32) (a9 : Nat) : (a9 = b ∧ pwW0 so b L xs a9 = .inl (4, L, .inl xs)) ∨ (∃ (j : Nat) (q9 : String × List Int32), pwRows[j]? = some q9 ∧ a9 = so j ∧ pwW0 so b L xs a9 = .inl (4, q9.2.length, .inl fun i => q9.2.getD i 0)) ∨ pwW0 so b L xs a9 = .inl (9, 0, .inl fun _ => 0) := by
  by_cases h : a9 = b
  · left; exact ⟨h, by unfold pwW0; rw [if_pos h]⟩
  · right
    unfold pwW0
    rw [if_neg h]
    cases hf : (List.range 8).find? (fun j => Nat.beq (so j) a9) with
    | none => exact Or.inr rfl
    | some j =>
      have h1 := List.find?_some hf
      cases hr : pwRows[j]? with
      | none => exact Or.inr (by simp only [hr])
      | some q9 => exact Or.inl ⟨j, q9, hr, (Nat.eq_of_beq_eq_true h1).symm, by simp only [hr]⟩
def pwTyL : List FieldType := [.int, .int, .int, .object pwR_X5]
theorem pwDs {args : Array Value} {s : State} (hts : ∀ wz ∈ lw_tbl, wz.before args s = true) (k9 : Nat) : ∃ z9 : ClassId × (Nat → Nat), ∀ q9 : vw_C, pwCl[k9]? = some q9 → u_Kn s q9.1 q9.2.1 q9.2.2 z9.1 z9.2 := by
  have hg : ∀ wz ∈ pwGw, wz.before args s = true := fun wz h => hts wz (List.mem_filter.mp h).1
  match k9 with
  | 0 => obtain ⟨c9, i9, h⟩ := u_known (C := pwR_X0) (T := pwT_X0) (N := 3) (n := 3) hg pwIn_u0 (hts (.instantiable pwR_X0 3) (by decide +kernel)); exact ⟨(c9, i9), fun q9 hq => by cases hq; exact h⟩
  | 1 => obtain ⟨c9, i9, h⟩ := u_known (C := pwR_X1) (T := pwT_X1) (N := 1) (n := 1) hg pwIn_u1 (hts (.instantiable pwR_X1 1) (by decide +kernel)); exact ⟨(c9, i9), fun q9 hq => by cases hq; exact h⟩
  | 2 => obtain ⟨c9, i9, h⟩ := u_known (C := pwR_X3) (T := pwT_X3) (N := 2) (n := 2) hg pwIn_u2 (hts (.instantiable pwR_X3 2) (by decide +kernel)); exact ⟨(c9, i9), fun q9 hq => by cases hq; exact h⟩
  | 3 => obtain ⟨c9, i9, h⟩ := u_known (C := pwR_X4) (T := pwT_X4) (N := 8) (n := 8) hg pwIn_u3 (hts (.instantiable pwR_X4 8) (by decide +kernel)); exact ⟨(c9, i9), fun q9 hq => by cases hq; exact h⟩
  | 4 => obtain ⟨c9, i9, h⟩ := u_known (C := pwR_X5) (T := pwT_X5) (N := 12) (n := 12) hg pwIn_u4 (hts (.instantiable pwR_X5 12) (by decide +kernel)); exact ⟨(c9, i9), fun q9 hq => by cases hq; exact h⟩
  | 5 => obtain ⟨c9, i9, h⟩ := u_known (C := pwR_X6) (T := pwT_X6) (N := 7) (n := 7) hg pwIn_u5 (hts (.instantiable pwR_X6 7) (by decide +kernel)); exact ⟨(c9, i9), fun q9 hq => by cases hq; exact h⟩
  | 6 => obtain ⟨c9, i9, h⟩ := u_known (C := pwR_X7) (T := pwT_X7) (N := 7) (n := 7) hg pwIn_u6 (hts (.instantiable pwR_X7 7) (by decide +kernel)); exact ⟨(c9, i9), fun q9 hq => by cases hq; exact h⟩
  | k9 + 7 => exact ⟨(0, fun _ => 0), fun q9 hq => by cases hq⟩
theorem pwDa {args : Array Value} {s : State} (hts : ∀ wz ∈ lw_tbl, wz.before args s = true) (k9 : Nat) : ∃ c9 : ClassId, ∀ t9 : FieldType, pwTyL[k9]? = some t9 → ArrOfT s c9 t9 ∧ va_RA s c9 t9 := by
  match k9 with
  | 0 => obtain ⟨c9, k8, p9, f1, f2, f3⟩ := Jvm.Cond.arrayClass_spec (hts (.arrayClass .int) (by decide +kernel)); exact ⟨c9, fun t9 ht => by cases ht; exact ⟨fun n9 z9 => ⟨(fun k h => by cases h), k8, f2, p9, f3⟩, f1⟩⟩
  | 1 => obtain ⟨c9, k8, p9, f1, f2, f3⟩ := Jvm.Cond.arrayClass_spec (hts (.arrayClass .int) (by decide +kernel)); exact ⟨c9, fun t9 ht => by cases ht; exact ⟨fun n9 z9 => ⟨(fun k h => by cases h), k8, f2, p9, f3⟩, f1⟩⟩
  | 2 => obtain ⟨c9, k8, p9, f1, f2, f3⟩ := Jvm.Cond.arrayClass_spec (hts (.arrayClass .int) (by decide +kernel)); exact ⟨c9, fun t9 ht => by cases ht; exact ⟨fun n9 z9 => ⟨(fun k h => by cases h), k8, f2, p9, f3⟩, f1⟩⟩
  | 3 => obtain ⟨p9, c9, k8, f0, -, f2, f3, f4⟩ := Jvm.Cond.arrayOver_spec (hts (.arrayOver (.object pwR_X5)) (by decide +kernel)); exact ⟨c9, fun t9 ht => by cases ht; exact ⟨fun n9 z9 => ⟨(fun k h => by cases h), k8, f2, p9, f3⟩, k8, p9, f2, f3, f0, f4⟩⟩
  | k9 + 4 => exact ⟨0, fun t9 ht => by cases ht⟩
/-- what holds at the law's entry (no exception table too) -/
def pwAt (p : Program) (s : State) (m : MethodId) (meth : Method) (c : Code) (b L : Nat) (xs : Nat → Int32) : Prop :=
  p.tables.exec = Jvm.exec ∧ c.code = code ∧ meth.sig.returnType = ret ∧ c.maxLocals = 7 ∧ s.vm.findClass pwR_L = some m.cls ∧ (∀ wz ∈ lw_tbl, wz.before #[Value.ref b] s = true) ∧ va_X b L xs s s.heap ∧ b < s.heap.size ∧ meth.locks = false ∧ (Jvm.Cond.and given_1 narrow_1).before #[Value.ref b] s = true ∧ (∀ z9 ∈ c.exceptionTable.toList, False)
theorem pwStart {p : Program} {e : Env} {s : State} {m : MethodId} {below : List Frame} {meth : Method} {c : Code} (l : Launch) (hflags : l.stackTraces = false) {b L : Nat} {xs : Nat → Int32} (hL : L ≤ 260) (C0 : pwAt p s m meth c b L xs) (hp : pwPure) : ∃ (K : pwKK) (o : pwO), K.1 = s.heap.size ∧ o.1 = .inl (some (.int 1)) ∧ o.2.1.2.2.1 ≤ 743554 ∧ o.2.1.2.2.2 ≤ 6870961 ∧ W p l e room_1 s m #[Value.ref b] below meth c s.heap [] 0 0 (pwQQ K below #[Value.ref b] s o 0 0) (entryFrame m ([Value.ref b] : List Value).toArray 7) := by
  obtain ⟨hx, hb, hr, hml, hown, hts, hX, hbl, hlocks, hgv, htab⟩ := C0
  have hnar : ∀ wz ∈ pwNar, wz.before #[Value.ref b] s = true := flat_of_before _ hgv
  have hA := pwHA s.heap.size
  obtain ⟨dd, hdd⟩ := Classical.axiomOfChoice (pwDs hts)
  obtain ⟨dA, hdA⟩ := Classical.axiomOfChoice (pwDa hts)
  have hrow : ∀ j : Nat, ∃ t9 : Nat, ∀ q9 : String × List Int32, pwRows[j]? = some q9 → (pwRowT q9.1).eval #[Value.ref b] s none [] s = some (.ref t9) ∧ va_T .int t9 q9.2.length (fun j => .int (q9.2.getD j 0)) (pwA s.heap.size) s s.heap ∧ va_Z pwR_X6 q9.1 "[I" (.ref t9) (pwA s.heap.size) s s.heap ∧ t9 < s.heap.size := by
    intro j
    cases hj : pwRows[j]? with
    | none => exact ⟨0, fun q9 h => by cases h⟩
    | some q9 =>
      obtain ⟨t9, ht⟩ := pwRow_of hnar hts (List.mem_of_getElem? hj)
      exact ⟨t9, fun q8 h => by cases h; exact ht⟩
  obtain ⟨so, hso⟩ := Classical.axiomOfChoice hrow
  have hinj : ∀ (j1 j2 : Nat) (q1 q2 : String × List Int32), pwRows[j1]? = some q1 → pwRows[j2]? = some q2 → so j1 = so j2 → j1 = j2 := by
    intro j1 j2 q1 q2 h1 h2 he
    obtain ⟨-, a1, -, -⟩ := hso j1 q1 h1
    obtain ⟨-, a2, -, -⟩ := hso j2 q2 h2
    rw [← he] at a2
    have h := pwRow_eq (pwRow_ln q1 (List.mem_of_getElem? h1)) (pwRow_ln q2 (List.mem_of_getElem? h2)) a1 a2
    have l1 : j1 < 8 := (List.getElem?_eq_some_iff.mp h1).1
    have l2 : j2 < 8 := (List.getElem?_eq_some_iff.mp h2).1
    have h9 := pwRow_df ⟨j1, l1⟩ ⟨j2, l2⟩ (by show (pwRows[j1]?).map Prod.snd = (pwRows[j2]?).map Prod.snd; rw [h1, h2]; exact congrArg some h)
    exact congrArg Fin.val h9
  have hbso : ∀ (j : Nat) (q9 : String × List Int32), pwRows[j]? = some q9 → so j ≠ b := by
    intro j q9 h he
    obtain ⟨a1, -, -, -⟩ := hso j q9 h
    have h2 := hnar _ (pwRow_in q9 (List.mem_of_getElem? h) (.not (.eq (.arg 0) (pwRowT q9.1))) (List.mem_append_left _ (List.mem_cons_of_mem _ (List.mem_cons_of_mem _ List.mem_cons_self))))
    rw [he] at a1
    have h3 : (Jvm.Term.arg 0).eval #[Value.ref b] s none [] s = some (.ref b) := rfl
    simp [Jvm.Cond.before, Jvm.Cond.holds, Jvm.Cond.value, a1, h3] at h2
  have hw1 : pwW0 so b L xs b = .inl (4, L, .inl xs) := by unfold pwW0; rw [if_pos rfl]
  have hw2 : ∀ (j : Nat) (q9 : String × List Int32), pwRows[j]? = some q9 → pwW0 so b L xs (so j) = .inl (4, q9.2.length, .inl fun i => q9.2.getD i 0) := by
    intro j q9 h
    have hj : j < 8 := (List.getElem?_eq_some_iff.mp h).1
    rcases pwW0_cases so b L xs (so j) with ⟨h1, -⟩ | ⟨j2, q2, h1, h2, h3⟩ | h1
    · exact absurd h1 (hbso j q9 h)
    · have := hinj _ _ _ _ h h1 h2
      subst this
      cases h.symm.trans h1
      exact h3
    · exfalso
      unfold pwW0 at h1
      rw [if_neg (hbso j q9 h)] at h1
      cases hf : (List.range 8).find? (fun j2 => Nat.beq (so j2) (so j)) with
      | none => exact absurd (List.find?_eq_none.mp hf j (List.mem_range.mpr hj)) (by simp)
      | some j2 =>
        have e1 := List.find?_some hf
        have e2 : j2 < 8 := List.mem_range.mp (List.mem_of_find?_eq_some hf)
        rw [hf] at h1
        dsimp only at h1
        cases hr2 : pwRows[j2]? with
        | none => exact absurd hr2 (by rw [List.getElem?_eq_none_iff]; show ¬ (8 ≤ j2); omega)
        | some q2 => rw [hr2] at h1; dsimp only at h1; injection h1 with h1; injection h1 with h1; cases h1
  obtain ⟨g1, w1, hrun, hc1, hc2⟩ := hp so b L s.heap.size xs (pwW0 so b L xs) hL hbl (fun j hj => by
    obtain ⟨q9, hq⟩ : ∃ q9, pwRows[j]? = some q9 := ⟨_, List.getElem?_eq_getElem (show j < pwRows.length from hj)⟩
    exact (hso j q9 hq).2.2.2) hw1 hw2
  let RO : Nat → Nat → (Nat → Int32) → Prop := fun a9 n9 f9 => pwW0 so b L xs a9 = .inl (4, n9, .inl f9)
  let K : pwKK := (s.heap.size, (fun k9 => (dd k9).1, fun k9 => (dd k9).2), dA, RO, so)
  have hRO : ∀ (a9 n9 : Nat) (f9 : Nat → Int32), RO a9 n9 f9 → a9 < s.heap.size ∧ va_T .int a9 n9 (fun j => .int (f9 j)) (pwA s.heap.size) s s.heap := by
    intro a9 n9 f9 h
    have h : pwW0 so b L xs a9 = .inl (4, n9, .inl f9) := h
    rcases pwW0_cases so b L xs a9 with ⟨h1, h2⟩ | ⟨j2, q2, h1, h2, h3⟩ | h1
    · rw [h2] at h
      cases h
      subst h1
      refine ⟨hbl, ?_⟩
      obtain ⟨scr, x1, x2, x3, x4, x5⟩ := hX
      exact ⟨scr, x1, x2, x3, Nat.le_of_eq x4.symm, by rw [x4], x5, hA _ hbl⟩
    · rw [h3] at h
      cases h
      obtain ⟨-, y2, -, y4⟩ := hso j2 q2 h1
      rw [h2]
      exact ⟨y4, y2⟩
    · rw [h1] at h
      injection h with h
      injection h with h
      cases h
  have hKB : pwKB K s := by
    refine ⟨⟨fun k9 q9 hq => hdd k9 q9 hq, fun k9 q9 hq => ?_⟩, Nat.le_refl _, hRO, fun j n9 hj => ?_, ⟨vx_Zqof (hts _ (by decide +kernel)) (hts _ (by decide +kernel)) (hnar _ (by decide +kernel)) hA, vx_Zqof (hts _ (by decide +kernel)) (hts _ (by decide +kernel)) (hnar _ (by decide +kernel)) hA⟩, fun own k9 tx hm => ?_, fun own i9 y9 h9 hm => va_Nw.of rfl (hts _ hm), fun C9 T9 hm => va_Nw.of rfl (hts _ hm), va_AO.of (hts (.arrayOver (.object pwR_X5)) (by decide +kernel)), fun C9 T9 hC hT hne => va_Nc.of (hnar _ (pwNar_ex C9 hC T9 hT hne)), fun x9 hm => va_Nw.of rfl (hts _ hm)⟩
    · match k9, hq with
      | 0, hq => cases hq; exact hdA 0 _ rfl
      | 1, hq => cases hq; exact hdA 1 _ rfl
      | 2, hq => cases hq; exact hdA 2 _ rfl
      | 3, hq => cases hq; exact hdA 3 _ rfl
      | k9 + 4, hq => cases hq
    · rw [pwRow_nm, List.getElem?_map] at hj
      obtain ⟨q9, hq, rfl⟩ := Option.map_eq_some_iff.mp hj
      exact (hso j q9 hq).2.2.1
    · have h1 := List.all_eq_true.mp pwNar_st _ hm
      have h2 := hnar _ (of_decide_eq_true h1)
      obtain ⟨sa, c9, cell9, k8, h3, -⟩ := Jvm.Cond.exactly_spec h2
      exact ⟨sa, vk_R.of (A := #[Value.ref b]) (hts _ hm) h3⟩
  have C : pwCx K p l room_1 s m #[Value.ref b] meth c pwM_L_law := ⟨hx, hb, hr, hml, hown, fun wz h => hts wz (List.mem_filter.mp h).1, hlocks, fun h => absurd h (by decide), by
    cases hc9 : c.exceptionTable.toList with
    | nil => rfl
    | cons z9 zs => exact (htab z9 (by rw [hc9]; exact List.mem_cons_self)).elim, hflags, by decide, by decide, hKB⟩
  have hR : pwRW K (s.heap.size, 0, 0, 0) (pwW0 so b L xs) s.heap := by
    refine ⟨fun a9 h => ?_, fun a9 n9 x9 h => ?_, Nat.le_refl _, Nat.le_refl _, fun _ => rfl⟩
    · exfalso
      rcases pwW0_cases so b L xs a9 with ⟨-, h2⟩ | ⟨j2, q2, h1, h2, h3⟩ | h1
      · rw [h2] at h; exact absurd (show (4 : Nat) ≤ 3 from h) (by decide)
      · rw [h3] at h; exact absurd (show (4 : Nat) ≤ 3 from h) (by decide)
      · rw [h1] at h; exact absurd (show (9 : Nat) ≤ 3 from h) (by decide)
    · rcases pwW0_cases so b L xs a9 with ⟨-, h2⟩ | ⟨j2, q2, h1, h2, h3⟩ | h1
      · rw [h2] at h; cases h; exact ⟨xs, rfl, h2⟩
      · rw [h3] at h; cases h; exact ⟨_, rfl, h3⟩
      · rw [h1] at h; injection h with h; injection h with h; cases h
  obtain ⟨n9, hn⟩ := pwX_run hrun
  refine ⟨K, (.inl (some (.int 1)), g1, w1), rfl, rfl, hc1, hc2, ?_⟩
  rw [lg_entry_eq]
  exact pwS12 hflags n9 163 pwM_L_law rfl 0 _ [] (s.heap.size, 0, 0, 0) _ _ hn p e room_1 s m #[Value.ref b] below meth c 0 0 C (Nat.le_refl _) (Nat.le_refl _) (by show g1.2.2.1 ≤ 743554 + 0; omega) (by show g1.2.2.2 ≤ 6870961 + 0; omega) s.heap [] 0 0 _ hR va_S.rf (pwLV_entry (As := [.ref b]) (Nat.le_of_ble_eq_true rfl)) rfl rfl

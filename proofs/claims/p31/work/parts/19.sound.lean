/-! the induction: a run of the small machine is a run of the machine, calls and all -/
def pwTyE (ct : Nat) : Nat := match ct with
  | 15 => 0
  | 19 => 1
  | _ => 2
def pwTyN (ct : Nat) : String := match ct with
  | 15 => "java/lang/IllegalArgumentException"
  | 19 => "java/lang/IllegalStateException"
  | _ => "java/lang/IndexOutOfBoundsException"
theorem pwTyN_in {ct : Nat} (h : ct = 15 ∨ ct = 19 ∨ ct = 34) : Jvm.Cond.classLink pwR_L ct (pwTyN ct) ∈ pwGw ∧ Jvm.Cond.castable (pwTyN ct) (pwTyN ct) ∈ lw_tbl ∧ pwTyN ct ∈ pwEx ∧ pwEx[pwTyE ct]? = some (pwTyN ct) ∧ ct ≠ 0 := by
  rcases h with rfl | rfl | rfl
  · exact ⟨pwIn_h13, pwIn_c0, by decide +kernel, rfl, by decide⟩
  · exact ⟨pwIn_h15, pwIn_c1, by decide +kernel, rfl, by decide⟩
  · exact ⟨pwIn_h28, pwIn_c2, by decide +kernel, rfl, by decide⟩
theorem pwEx_inj {i9 j9 : Nat} {E : String} (h1 : pwEx[i9]? = some E) (h2 : pwEx[j9]? = some E) : i9 = j9 := by
  match i9, j9, h1, h2 with
  | 0, 0, _, _ => rfl
  | 1, 1, _, _ => rfl
  | 2, 2, _, _ => rfl
  | 0, 1, h1, h2 => cases h1; exact absurd h2 (by decide +kernel)
  | 0, 2, h1, h2 => cases h1; exact absurd h2 (by decide +kernel)
  | 1, 0, h1, h2 => cases h1; exact absurd h2 (by decide +kernel)
  | 1, 2, h1, h2 => cases h1; exact absurd h2 (by decide +kernel)
  | 2, 0, h1, h2 => cases h1; exact absurd h2 (by decide +kernel)
  | 2, 1, h1, h2 => cases h1; exact absurd h2 (by decide +kernel)
  | k9 + 3, _, h1, _ => cases h1
  | _, k9 + 3, _, h2 => cases h2
/-- no call -/
def pwNoC (a9 : Option pwNX) : Prop := ∀ cc : pwC, a9 ≠ some (.inr (.inr cc))
theorem pwNoC_no : pwNoC none := fun _ h => by cases h
theorem pwNoC_go {g : pwG} {pc : Nat} {L : pwLL} {st : List Value} {w : pwW} : pwNoC (pwGo pc L st g w) := fun z h => by cases h
theorem pwNoC_re {v : Option Value} {g : pwG} {w : pwW} : pwNoC (pwRet v g w) := fun z h => by cases h
theorem pwNoC_th {k : Nat} {g : pwG} {w : pwW} : pwNoC (pwThr k g w) := fun z h => by cases h
theorem pwNoC_bind {α : Type} {x9 : Option α} {f : α → Option pwNX} (h : ∀ v, pwNoC (f v)) : pwNoC (x9.bind f) := by
  cases x9 with
  | none => exact pwNoC_no
  | some v => exact h v
theorem pwNoC_cond {b9 : Bool} {x9 y9 : Option pwNX} (h1 : pwNoC x9) (h2 : pwNoC y9) : pwNoC (bif b9 then x9 else y9) := by
  cases b9
  · exact h2
  · exact h1
theorem pwNoC_ite {c9 : Prop} [Decidable c9] {x9 y9 : Option pwNX} (h1 : pwNoC x9) (h2 : pwNoC y9) : pwNoC (if c9 then x9 else y9) := by
  by_cases h : c9
  · rw [if_pos h]; exact h1
  · rw [if_neg h]; exact h2
theorem pwCallN (i len : Nat) (r : pwRP) (mi pc : Nat) (L : pwLL) (st : List Value) (g : pwG) (w : pwW) : pwNoC (pwAct1 (.new i) len r mi pc L st g w) := by
  simp only [pwAct1]; repeat' (first | with_reducible exact pwNoC_no | with_reducible exact pwNoC_go | with_reducible exact pwNoC_re | with_reducible exact pwNoC_th | with_reducible refine pwNoC_bind (fun v9 => ?_) | with_reducible refine pwNoC_cond ?_ ?_ | with_reducible refine pwNoC_ite ?_ ?_ | split)
theorem pwCallR1 (len : Nat) (r : pwRP) (mi pc : Nat) (L : pwLL) (st : List Value) (g : pwG) (w : pwW) : pwNoC (pwAct1 .ireturn len r mi pc L st g w) := by
  simp only [pwAct1]; repeat' (first | with_reducible exact pwNoC_no | with_reducible exact pwNoC_go | with_reducible exact pwNoC_re | with_reducible exact pwNoC_th | with_reducible refine pwNoC_bind (fun v9 => ?_) | with_reducible refine pwNoC_cond ?_ ?_ | with_reducible refine pwNoC_ite ?_ ?_ | split)
theorem pwCallR2 (len : Nat) (r : pwRP) (mi pc : Nat) (L : pwLL) (st : List Value) (g : pwG) (w : pwW) : pwNoC (pwAct1 .lreturn len r mi pc L st g w) := by
  simp only [pwAct1]; repeat' (first | with_reducible exact pwNoC_no | with_reducible exact pwNoC_go | with_reducible exact pwNoC_re | with_reducible exact pwNoC_th | with_reducible refine pwNoC_bind (fun v9 => ?_) | with_reducible refine pwNoC_cond ?_ ?_ | with_reducible refine pwNoC_ite ?_ ?_ | split)
theorem pwCallR3 (len : Nat) (r : pwRP) (mi pc : Nat) (L : pwLL) (st : List Value) (g : pwG) (w : pwW) : pwNoC (pwAct1 .areturn len r mi pc L st g w) := by
  simp only [pwAct1]; repeat' (first | with_reducible exact pwNoC_no | with_reducible exact pwNoC_go | with_reducible exact pwNoC_re | with_reducible exact pwNoC_th | with_reducible refine pwNoC_bind (fun v9 => ?_) | with_reducible refine pwNoC_cond ?_ ?_ | with_reducible refine pwNoC_ite ?_ ?_ | split)
theorem pwCallR4 (len : Nat) (r : pwRP) (mi pc : Nat) (L : pwLL) (st : List Value) (g : pwG) (w : pwW) : pwNoC (pwAct1 .return_ len r mi pc L st g w) := by
  simp only [pwAct1]; repeat' (first | with_reducible exact pwNoC_no | with_reducible exact pwNoC_go | with_reducible exact pwNoC_re | with_reducible exact pwNoC_th | with_reducible refine pwNoC_bind (fun v9 => ?_) | with_reducible refine pwNoC_cond ?_ ?_ | with_reducible refine pwNoC_ite ?_ ?_ | split)
section PWS
variable {K : pwKK} {p : Program} {l : Launch} {e : Env} {R : Room} {s : State} {m : MethodId} {args : Array Value} {below : List Frame} {meth : Method} {c : Code} {Q : State → Prop} {k0 s0 : Nat} {mt : pwMT} {pc len mi : Nat} {r : pwRP} {L : pwLL} {st rest : List Value} {g : pwG} {w : pwW} {o : pwO} {H : Heap} {locs : List Loc} {cells slots : Nat} {ls : Array Slot}
/-- a wrapper's handler takes the exception -/
theorem pwI_catch {k hp j : Nat} {E : String} {q : Addr} {ce : Cell} (C : pwCx K p l R s m args meth c mt) (hm : pwMeth mi = some mt) (hE : pwEx[k]? = some E) (hh : pwHnd mi pc k = some (hp, j)) (hb : (pwFr L j && Nat.blt j L.length) = true) (hR : pwRW K g w H) (hS : va_S (pwA K.1) s.heap H locs) (hL : pwLV ls mt.2.1.1 L) (h1 : cells + k0 = g.2.2.1) (h2 : slots + s0 = g.2.2.2) (hcell : H[q]? = some ce) (hv : ce.vm = .none) (hcl : s.vm.findClass E = some ce.cls)
    (kk : pwV K p l e R s m args below meth c Q k0 s0 mt (hp, L.set j none, [], g, w)) : vx_W p l e R s m args below meth c H locs cells slots Q (F0 m pc ls rest) q := by
  unfold pwHnd at hh
  rw [hm, Option.bind_some] at hh
  obtain ⟨b9, hf, hh⟩ := Option.bind_eq_some_iff.mp hh
  obtain ⟨q9, hq, hh⟩ := Option.bind_eq_some_iff.mp hh
  obtain ⟨hP, pre, suf, hsplit, hpre⟩ := List.find?_eq_some_iff_append.mp hf
  have hall := pwAllH hm
  unfold pwChkH at hall
  have hin9 : ∀ z ∈ mt.2.2.2.1, mt.1.1 = pwR_L ∧ (z.2.2.2 = 15 ∨ z.2.2.2 = 19 ∨ z.2.2.2 = 34) := by
    intro z hz
    have := List.all_eq_true.mp hall z hz
    simp only [Bool.and_eq_true, decide_eq_true_eq, Bool.or_eq_true, Nat.beq_eq] at this
    exact ⟨this.1, by rcases this.2 with (a9 | a9) | a9 <;> simp [a9]⟩
  have hb9 : b9 ∈ mt.2.2.2.1 := by rw [hsplit]; simp
  obtain ⟨hown9, hty⟩ := hin9 b9 hb9
  obtain ⟨t1, t2, t3, t4, t5⟩ := pwTyN_in hty
  have hte : ∀ z : Nat × Nat × Nat × Nat, (match z.2.2.2 with
      | 15 => 0
      | 19 => 1
      | _ => 2) = pwTyE z.2.2.2 := fun z => rfl
  simp only [Bool.and_eq_true] at hP
  obtain ⟨⟨hP1, hP2⟩, hP3⟩ := hP
  have hk9 : k = pwTyE b9.2.2.2 := Nat.eq_of_beq_eq_true hP3
  have hEn : E = pwTyN b9.2.2.2 := by rw [hk9, t4] at hE; exact (Option.some.inj hE).symm
  have hts := C.2.2.2.2.2.1
  have htab : c.exceptionTable.toList = (tableOf pre) ++ (⟨b9.1, b9.2.1, b9.2.2.1, b9.2.2.2⟩ : ExceptionTableEntry) :: tableOf suf := by
    rw [C.2.2.2.2.2.2.2.2.1, hsplit]
    simp [tableOf]
  refine vx_catch (name := pwTyN b9.2.2.2) C.2.2.2.2.1 (tableOf pre) ⟨b9.1, b9.2.1, b9.2.2.1, b9.2.2.2⟩ (tableOf suf) htab (fun z hz => ?_) ?_ t5 (hts _ (by rw [hown9]; exact t1)) (va_Nw.use rfl (C.kb.2.2.2.2.2.2.2.1 _ _ (by rw [hEn]; exact t2))) hcell hv hcl ?_
  · obtain ⟨z9, hz9, rfl⟩ := List.mem_map.mp hz
    have hz1 := hpre z9 hz9
    obtain ⟨hown8, hty8⟩ := hin9 z9 (by rw [hsplit]; exact List.mem_append_left _ hz9)
    obtain ⟨u1, u2, u3, u4, u5⟩ := pwTyN_in hty8
    by_cases hcv : z9.1 ≤ pc ∧ pc < z9.2.1
    · refine Or.inr ⟨u5, pwTyN z9.2.2.2, hts _ (by rw [hown8]; exact u1), C.kb.2.2.2.2.2.2.2.2.2.1 _ _ (by rw [hEn]; exact t3) u3 (fun e9 => ?_)⟩
      have hkz : k = pwTyE z9.2.2.2 := pwEx_inj hE (by rw [e9]; exact u4)
      have hz2 : (Nat.ble z9.1 pc && Nat.blt pc z9.2.1 && Nat.beq k (pwTyE z9.2.2.2)) = true := by
        rw [← hkz]
        simp only [Bool.and_eq_true, Nat.beq_eq, Nat.ble_eq, Nat.blt_eq]
        exact ⟨⟨hcv.1, hcv.2⟩, trivial⟩
      have hz3 : (!(Nat.ble z9.1 pc && Nat.blt pc z9.2.1 && Nat.beq k (pwTyE z9.2.2.2))) = true := hz1
      rw [hz2] at hz3
      cases hz3
    · refine Or.inl ?_
      show (decide (z9.1 ≤ pc) && decide (pc < z9.2.1)) = false
      by_cases a9 : z9.1 ≤ pc
      · by_cases b8 : pc < z9.2.1
        · exact absurd ⟨a9, b8⟩ hcv
        · simp [b8]
      · simp [a9]
  · show (decide (b9.1 ≤ pc) && decide (pc < b9.2.1)) = true
    have x1 : b9.1 ≤ pc := Nat.le_of_ble_eq_true hP1
    have x2 : pc < b9.2.1 := by simpa using hP2
    simp [x1, x2]
  · obtain ⟨d9, hk8, -⟩ := pwCod_ok hm hq
    simp only [Bool.and_eq_true, Nat.blt_eq] at hb
    have hln : L.length = mt.2.1.1 := hL.2.2.1
    obtain ⟨x9, ln9, r9⟩ := q9
    dsimp only at hh d9 hk8
    split at hh
    · rename_i i9
      cases hh
      have hlen : ln9 = 1 := by simpa [pwChkL] using hk8
      subst hlen
      refine lv_astore_n C.1 C.2.1 d9 rfl hL.has (by omega) rfl (fun ls1 hl1 => ?_)
      have h9 := (pwLV.set1 hln hb.1 hl1).unset (i := (i9 : Nat))
      rw [List.set_set] at h9
      exact kk H locs cells slots ls1 hR hS h9 h1 h2
    · rename_i i9
      cases hh
      have hlen : ln9 = 2 := by simpa [pwChkL] using hk8
      subst hlen
      refine lv_astore C.1 C.2.1 d9 hL.has (by omega) rfl (fun ls1 hl1 => ?_)
      first
        | (have h9 := (pwLV.set1 hln hb.1 hl1).unset (i := j)
           rw [List.set_set] at h9
           exact kk H locs cells slots ls1 hR hS h9 h1 h2)
        | (have h9 := (pwLV.set1 hln hb.1 hl1).unset (i := i9)
           rw [List.set_set] at h9
           exact kk H locs cells slots ls1 hR hS h9 h1 h2)
    · cases hh
end PWS
/-- bodies -/
def pwS1 (K : pwKK) (l : Launch) (n9 : Nat) : Prop := ∀ (mi : Nat) (mt : pwMT), pwMeth mi = some mt → ∀ (pc : Nat) (L : pwLL) (st : List Value) (g : pwG) (w : pwW) (o : pwO), pwRun K.2.2.2.2 n9 mi pc L st g w = some o → ∀ (p : Program) (e : Env) (R : Room) (s : State) (m : MethodId) (args : Array Value) (below : List Frame) (meth : Method) (c : Code) (k0 s0 : Nat), pwCx K p l R s m args meth c mt → k0 ≤ g.2.2.1 → s0 ≤ g.2.2.2 → o.2.1.2.2.1 ≤ R.cells + k0 → o.2.1.2.2.2 ≤ R.slots + s0 → pwV K p l e R s m args below meth c (pwQQ K below args s o k0 s0) k0 s0 mt (pc, L, st, g, w)
/-- callees -/
def pwS2 (K : pwKK) (l : Launch) (n9 : Nat) : Prop := ∀ (mi : Nat) (mt : pwMT), pwMeth mi = some mt → mi ≠ 163 → ∀ (As : List Value) (g : pwG) (w : pwW) (o : pwO), (pwMkl As).length ≤ mt.2.1.1 → pwRun K.2.2.2.2 n9 mi 0 (pwPad mt.2.1.1 (pwMkl As)) [] g w = some o → pwMet K l mt As g w o
theorem pwS2_of {K : pwKK} {l : Launch} (hl : l.stackTraces = false) {n9 : Nat} (h : pwS1 K l n9) : pwS2 K l n9 := by
  intro mi mt hm hn As g w o hlen hrun
  obtain ⟨q, hq, -⟩ := pwAllM hm hn
  obtain ⟨h1, ⟨h2, h3, h4, h5⟩, h6, h7, h8, h9⟩ := pwChkM_d hq
  obtain ⟨m1, m2⟩ := pwRun_mono _ _ _ _ _ _ _ _ hrun
  have body : ∀ (p : Program) (e : Env) (s : State) (m : MethodId) (args : Array Value) (below : List Frame) (meth : Method) (c : Code) (s₁ : State), BodyLoose p l mt.1.2.1 (headSpec (pwWs mt) (pwRm mt g o)) mt.1.2.2 mt.2.1.1 mt.2.1.2.1 e s m args below meth c s₁ → c.maxLocals = mt.2.1.1 → c.exceptionTable.toList = tableOf mt.2.2.2.1 → pwPre K As g w args s →
      W p l e (headSpec (pwWs mt) (pwRm mt g o)).room s m args below meth c s.heap [] 0 0 (vx_MQ below (pwQ K o) (pwXC K o) args s (pwMc g o) (pwMs' g o) (pwA K.1)) (entryFrame m args mt.2.1.1) := by
    intro p e s m args below meth c s₁ B hml htb hP
    obtain ⟨rfl, hR, hKB⟩ := hP
    have hts : ∀ wz ∈ pwWs mt, wz.before As.toArray s = true := atoms_spec (ws := pwWs mt) B.pre
    have hown : s.vm.findClass mt.1.1 = some m.cls := by rw [← h2]; exact findClass_of_methodNamed B.named
    have C : pwCx K p l (headSpec (pwWs mt) (pwRm mt g o)).room s m As.toArray meth c mt := ⟨B.exec, B.bytes, B.returns, hml, hown, fun wz hz => hts wz (List.mem_cons_of_mem _ hz), B.notSynchronized, fun hi => (name_of_methodNamed B.named B.method).1.trans hi, htb, hl, Nat.le_refl _, Nat.le_refl _, hKB⟩
    rw [lg_entry_eq]
    refine h mi mt hm 0 _ [] g w o hrun p e _ s m As.toArray below meth c g.2.2.1 g.2.2.2 C (Nat.le_refl _) (Nat.le_refl _) ?_ ?_ s.heap [] 0 0 _ hR va_S.rf (pwLV_entry hlen) (Nat.zero_add _) (Nat.zero_add _)
    · show o.2.1.2.2.1 ≤ o.2.1.2.2.1 - g.2.2.1 + g.2.2.1; omega
    · show o.2.1.2.2.2 ≤ o.2.1.2.2.2 - g.2.2.2 + g.2.2.2; omega
  unfold pwMet
  cases hh : mt.2.2.2.1 with
  | nil =>
    have hhd : pwHead mt = .code mt.1.2.1 mt.1.2.2 mt.2.1.1 mt.2.1.2.1 := by unfold pwHead; rw [hh]
    refine vx_ofW (cc := mt.1.2.2) (maxL := mt.2.1.1) (ret := mt.2.1.2.1) (ws' := pwGw) h1 (by unfold pwWs; rw [hhd]) fun p e s m args below meth c s₁ B hml ht hP => ?_
    refine body p e s m args below meth c s₁ B hml ?_ hP
    rw [hh]
    cases hx9 : c.exceptionTable.toList with
    | nil => rfl
    | cons z zs => exact (ht z (by rw [hx9]; exact List.mem_cons_self)).elim
  | cons z zs =>
    have hhd : pwHead mt = .codeWith mt.1.2.1 mt.1.2.2 mt.2.1.1 mt.2.1.2.1 (z :: zs) := by unfold pwHead; rw [hh]
    refine vx_ofWH (cc := mt.1.2.2) (maxL := mt.2.1.1) (ret := mt.2.1.2.1) (hh := z :: zs) (ws' := pwGw) h1 (by unfold pwWs; rw [hhd]) fun p e s m args below meth c s₁ B hml hP => ?_
    refine body p e s m args below meth c s₁ B hml ?_ hP
    rw [hh]
    exact vx_table (x := mt.1.2.1) B (atoms_spec (ws := pwWs mt) B.pre _ (by unfold pwWs; rw [hhd]; exact List.mem_cons_self))
section PWS3
variable {K : pwKK} {p : Program} {l : Launch} {e : Env} {R : Room} {s : State} {m : MethodId} {args : Array Value} {below : List Frame} {meth : Method} {c : Code} {k0 s0 : Nat} {mt mc : pwMT} {pc n9 mi : Nat} {L : pwLL} {st rest : List Value} {g : pwG} {w : pwW} {o o1 : pwO} {H : Heap} {locs : List Loc} {cells slots : Nat} {ls : Array Slot}
/-- behind a call's run -/
theorem pwS_call {a9 : Array Value} {cc : pwC} (ih : pwS1 K l n9) (C : pwCx K p l R s m args meth c mt) (hm : pwMeth mi = some mt) (hL : pwLV ls mt.2.1.1 L) (hS : va_S (pwA K.1) s.heap H locs) (h1 : cells + k0 = g.2.2.1) (h2 : slots + s0 = g.2.2.2) (hg1 : g.2.2.1 ≤ o1.2.1.2.2.1) (hg2 : g.2.2.2 ≤ o1.2.1.2.2.2) (hrc : o.2.1.2.2.1 ≤ R.cells + k0) (hrs : o.2.1.2.2.2 ≤ R.slots + s0) (hcc : cc.2 = (pc + 3, rest)) (haft : pwAft (pwRun K.2.2.2.2 n9) mi pc L cc (some o1) = some o)
    (hr : vx_Run p l e R s m args below meth c H locs cells slots (pwMc g o1) (pwMs' g o1) (F0 m pc ls st) rest (pwQ K o1 a9) (pwXC K o1) (pwA K.1)) : W p l e R s m args below meth c H locs cells slots (pwQQ K below args s o k0 s0) (F0 m pc ls st) := by
  have hc1 : cells + pwMc g o1 + k0 = o1.2.1.2.2.1 := by unfold pwMc; omega
  have hc2 : slots + pwMs' g o1 + s0 = o1.2.1.2.2.2 := by unfold pwMs'; omega
  refine pwRunW hr hS (fun v hv H1 locs1 hR1 hS1 => ?_) (fun k E q ce hv hE H1 locs1 hR1 hS1 hce hcv hcl => ?_)
  · obtain ⟨r1, g1, w1⟩ := o1
    dsimp only at hv
    subst hv
    have haft : pwRun K.2.2.2.2 n9 mi cc.2.1 L (pwPsh v cc.2.2) g1 w1 = some o := haft
    rw [hcc] at haft
    have hst : v.toList ++ rest = pwPsh v rest := by cases v <;> rfl
    rw [hst]
    exact ih mi mt hm (pc + 3) L (pwPsh v rest) g1 w1 o haft p e R s m args below meth c k0 s0 C (by dsimp only at hg1; omega) (by dsimp only at hg2; omega) hrc hrs H1 locs1 _ _ ls hR1 hS1 hL hc1 hc2
  · obtain ⟨r1, g1, w1⟩ := o1
    dsimp only at hv
    subst hv
    simp only [pwAft] at haft
    cases hh : pwHnd mi pc k with
    | none =>
      rw [hh] at haft
      cases hb : pwNoH mi with
      | false => simp only [hb, cond_false] at haft; cases haft
      | true =>
        simp only [hb, cond_true] at haft
        cases haft
        have hno : mt.2.2.2.1 = [] := by
          unfold pwNoH at hb
          rw [hm] at hb
          exact List.isEmpty_iff.mp hb
        refine vx_out (fun x9 hx9 => ?_) C.2.2.2.2.2.2.1 hce hcv hcl (fun t ht _ => ⟨⟨k, rfl, hE, by rw [ht]; exact hR1⟩, hS1.F ht⟩) hS1.2.2 ?_ ?_
        · rw [C.2.2.2.2.2.2.2.2.1, hno] at hx9
          cases hx9
        · dsimp only at hc1 ⊢; omega
        · dsimp only at hc2 ⊢; omega
    | some q9 =>
      rw [hh] at haft
      cases hb : (pwFr L q9.2 && Nat.blt q9.2 L.length) with
      | false => simp only [hb, cond_false] at haft; cases haft
      | true =>
        simp only [hb, cond_true] at haft
        refine pwI_catch C hm hE (hp := q9.1) (j := q9.2) hh hb hR1 hS1 hL hc1 hc2 hce hcv hcl ?_
        exact ih mi mt hm q9.1 (L.set q9.2 none) [] g1 w1 o haft p e R s m args below meth c k0 s0 C (by dsimp only at hg1; omega) (by dsimp only at hg2; omega) hrc hrs
end PWS3
theorem pwTD {α : Type} (n9 : Nat) (st : List α) : st = (st.take n9).reverse.reverse ++ st.drop n9 := by rw [List.reverse_reverse, List.take_append_drop]
theorem pwS1_succ {K : pwKK} {l : Launch} {n9 : Nat} (ih : pwS1 K l n9) (ih2 : pwS2 K l n9) : pwS1 K l (n9 + 1) := by
  intro mi mt hm pc L st g w o hrun p e R s m args below meth c k0 s0 C hk0 hs0 hrc hrs
  have hrun : pwWrp (pwRun K.2.2.2.2 n9) mi pc L g w (pwAct K.2.2.2.2 mi pc L st g w) = some o := hrun
  cases ha : pwAct K.2.2.2.2 mi pc L st g w with
  | none => rw [ha] at hrun; cases hrun
  | some z =>
    rw [ha] at hrun
    obtain ⟨m1, m2⟩ := pwAct_mono z ha
    obtain ⟨⟨x, len, r⟩, hc, ha2⟩ := Option.bind_eq_some_iff.mp ha
    obtain ⟨d, hk, hX⟩ := pwCod_ok hm hc
    dsimp only at d hk
    match z, hrun, m1, ha, ha2 with
    | .inl y, hrun, m1, ha, _ =>
      obtain ⟨q1, q2⟩ := m1 y rfl
      obtain ⟨q3, q4⟩ := pwRun_mono _ _ _ _ _ _ _ _ hrun
      exact pwDisp C hc d hk (Nat.le_trans q3 hrc) (Nat.le_trans q4 hrs) ha (ih mi mt hm _ _ _ _ _ o hrun p e R s m args below meth c k0 s0 C (Nat.le_trans hk0 q1) (Nat.le_trans hs0 q2) hrc hrs)
    | .inr (.inl o9), hrun, _, ha, _ =>
      cases hrun
      exact pwEnd C hm hc d hk hrc hrs ha
    | .inr (.inr cc), hrun, _, _, ha2 =>
      have hrun : pwAft (pwRun K.2.2.2.2 n9) mi pc L cc (pwRun K.2.2.2.2 n9 cc.1.1 0 cc.1.2 [] g w) = some o := hrun
      cases hcal : pwRun K.2.2.2.2 n9 cc.1.1 0 cc.1.2 [] g w with
      | none => rw [hcal] at hrun; cases hrun
      | some o1 =>
        rw [hcal] at hrun
        obtain ⟨g1, g2⟩ := pwRun_mono _ _ _ _ _ _ _ _ hcal
        have hfin : o1.2.1.2.2.1 ≤ o.2.1.2.2.1 ∧ o1.2.1.2.2.2 ≤ o.2.1.2.2.2 := by
          obtain ⟨r1, gg1, w1⟩ := o1
          cases r1 with
          | inl v => exact pwRun_mono _ _ _ _ _ _ _ _ hrun
          | inr k =>
            have hr9 := hrun
            simp only [pwAft] at hr9
            cases hh : pwHnd mi pc k with
            | none =>
              rw [hh] at hr9
              cases hb : pwNoH mi with
              | false => simp only [hb, cond_false] at hr9; cases hr9
              | true => simp only [hb, cond_true] at hr9; cases hr9; exact ⟨Nat.le_refl _, Nat.le_refl _⟩
            | some q =>
              rw [hh] at hr9
              cases hb : (pwFr L q.2 && Nat.blt q.2 L.length) with
              | false => simp only [hb, cond_false] at hr9; cases hr9
              | true => simp only [hb, cond_true] at hr9; exact pwRun_mono _ _ _ _ _ _ _ _ hr9
        dsimp only at ha2
        cases hs : pwSimple x with
        | true =>
          exfalso
          split at ha2
          · cases ha2
          · exact pwAct1_inl _ hs _ _ _ _ _ _ _ _ _ ha2
        | false =>
          intro H locs cells slots ls hR hS hL h1 h2
          have hR : pwRW K g w H := hR
          have h1 : cells + k0 = g.2.2.1 := h1
          have h2 : slots + s0 = g.2.2.2 := h2
          have hr1 : cells + pwMc g o1 ≤ R.cells := by unfold pwMc; omega
          have hr2 : slots + pwMs' g o1 ≤ R.slots := by unfold pwMs'; omega
          cases x
          case invokestatic i =>
            simp only [pwAct1] at ha2
            cases b1 : Nat.beq r.1 1001 with
            | true => exfalso; rw [b1, cond_true] at ha2; split at ha2 <;> first | cases ha2 | (revert ha2; exact fun h9 => pwInl_cond pwInl_go pwInl_no _ h9)
            | false =>
            rw [b1, cond_false] at ha2
            cases b2 : Nat.beq r.1 1002 with
            | true => exfalso; rw [b2, cond_true] at ha2; split at ha2 <;> first | cases ha2 | (revert ha2; exact fun h9 => pwInl_cond pwInl_go pwInl_no _ h9)
            | false =>
            rw [b2, cond_false] at ha2
            cases b3 : Nat.beq r.1 1003 with
            | true => exfalso; rw [b3, cond_true] at ha2; split at ha2 <;> first | cases ha2 | (revert ha2; exact fun h9 => pwInl_cond (pwInl_bind fun _ => pwInl_go) pwInl_no _ h9)
            | false =>
            rw [b3, cond_false] at ha2
            obtain ⟨mc, hmc, ha2⟩ := Option.bind_eq_some_iff.mp ha2
            cases hb : (Nat.beq (st.take mc.2.1.2.2).length mc.2.1.2.2 && Nat.ble (pwCats (st.drop mc.2.1.2.2)) 8 && Nat.ble (pwMkl (st.take mc.2.1.2.2).reverse).length mc.2.1.1) with
            | false => rw [hb] at ha2; cases ha2
            | true =>
              rw [hb, cond_true] at ha2
              simp only [Option.some.injEq, Sum.inr.injEq] at ha2
              subst ha2
              simp only [Bool.and_eq_true, Nat.beq_eq] at hb
              obtain ⟨⟨hb1, hb2⟩, hb3⟩ := hb
              simp only [pwChkL, Bool.and_eq_true, Nat.beq_eq, b1, b2, b3, cond_false, hmc] at hk
              obtain ⟨hlen, hk1, hk2⟩ := hk
              subst hlen
              have hbig : Nat.ble 1000 r.1 = false := by
                cases h9 : Nat.ble 1000 r.1 with
                | false => rfl
                | true =>
                  have h8 := Nat.le_of_ble_eq_true h9
                  obtain ⟨l9, y1, y2⟩ := pwMeth_at hmc
                  have y3 := (List.getElem?_eq_some_iff.mp y1).1
                  have y4 : pwMs.length = 11 := rfl
                  omega
              simp only [pwChkX, hbig, Bool.false_or, hmc, Bool.and_eq_true, pwKd, decide_eq_true_eq] at hX
              obtain ⟨hX1, hX2⟩ := hX
              have hn163 : r.1 ≠ 163 := fun e9 => by rw [e9] at hX1; exact absurd hX1 (by decide)
              obtain ⟨q, hq, hqk⟩ := pwAllM hmc hn163
              have hq0 : q.1 = 0 := Option.some.inj (hqk.symm.trans hX1)
              have hM := ih2 r.1 mc hmc hn163 _ g w o1 (Nat.le_of_ble_eq_true hb3) hcal
              refine pwS_call (rest := st.drop mc.2.1.2.2) ih C hm hL hS h1 h2 g1 g2 hrc hrs rfl hrun (pwRunS (r := r) C hq hq0 hM hk1 (fun hne => ?_) hk2 hR hS (by rw [List.length_reverse]; exact hb1) hL.1 (pwTD _ st) (Nat.le_of_ble_eq_true hb2) d hr1 hr2)
              simp only [Bool.or_eq_true] at hX2
              rcases hX2 with h9 | h9
              · exact absurd (List.isEmpty_iff.mp h9) hne
              · unfold pwLink at hk1
                rw [h9, cond_true] at hk1
                exact pwIn_mem hk1
          case invokevirtual i =>
            simp only [pwAct1] at ha2
            obtain ⟨mc, hmc, ha2⟩ := Option.bind_eq_some_iff.mp ha2
            split at ha2
            · rename_i b rest hdr
              cases hb : (pwIsC w b mc.2.2.1.2.2 && Nat.beq (st.take mc.2.1.2.2).reverse.length mc.2.1.2.2 && Nat.ble (pwCats rest) 8 && Nat.ble (pwMkl (st.take mc.2.1.2.2).reverse).length (mc.2.1.1 - 1) && Nat.blt 0 mc.2.1.1) with
              | false => rw [hb] at ha2; cases ha2
              | true =>
                rw [hb, cond_true] at ha2
                simp only [Option.some.injEq, Sum.inr.injEq] at ha2
                subst ha2
                simp only [Bool.and_eq_true, Nat.beq_eq, Nat.blt_eq] at hb
                obtain ⟨⟨⟨⟨hb1, hb2⟩, hb3⟩, hb4⟩, hb5⟩ := hb
                have hb4 := Nat.le_of_ble_eq_true hb4
                simp only [pwChkL, Bool.and_eq_true, Nat.beq_eq, hmc] at hk
                obtain ⟨hlen, ⟨hk0, hk1⟩, hk2⟩ := hk
                subst hlen
                simp only [pwChkX, hmc, Bool.and_eq_true, pwKd, decide_eq_true_eq] at hX
                obtain ⟨hX1, hX2⟩ := hX
                have hn163 : r.1 ≠ 163 := fun e9 => by rw [e9] at hX1; exact absurd hX1 (by decide)
                obtain ⟨q, hq, hqk⟩ := pwAllM hmc hn163
                have hq0 : q.1 = 1 := Option.some.inj (hqk.symm.trans hX1)
                have hM := ih2 r.1 mc hmc hn163 (.ref b :: (st.take mc.2.1.2.2).reverse) g w o1 (by show (pwMkl (st.take mc.2.1.2.2).reverse).length + 1 ≤ _; omega) hcal
                unfold pwLink at hk1
                rw [show Nat.beq r.2.1 0 = true from by rw [hk0]; rfl, cond_true] at hk1
                have hlk := pwIn_mem hk1
                exact pwS_call (rest := rest) ih C hm hL hS h1 h2 g1 g2 hrc hrs rfl hrun (pwRunV C hq hq0 (List.isEmpty_iff.mp hX2) hM hlk hk2 hR hS hb1 hb2 hL.1 (by rw [← hdr]; exact pwTD _ st) (Nat.le_of_ble_eq_true hb3) d hr1 hr2)
            · cases ha2
          case invokespecial i =>
            simp only [pwAct1] at ha2
            cases b1 : Nat.beq r.1 1000 with
            | true => exfalso; rw [b1, cond_true] at ha2; split at ha2 <;> first | cases ha2 | (revert ha2; exact fun h9 => pwInl_cond pwInl_go pwInl_no _ h9)
            | false =>
            rw [b1, cond_false] at ha2
            obtain ⟨mc, hmc, ha2⟩ := Option.bind_eq_some_iff.mp ha2
            split at ha2
            · rename_i b rest hdr
              cases hb : (pwIsC w b mc.2.2.1.2.2 && Nat.beq (st.take mc.2.1.2.2).reverse.length mc.2.1.2.2 && Nat.ble (pwCats rest) 8 && Nat.ble (pwMkl (st.take mc.2.1.2.2).reverse).length (mc.2.1.1 - 1) && Nat.blt 0 mc.2.1.1) with
              | false => rw [hb] at ha2; cases ha2
              | true =>
                rw [hb, cond_true] at ha2
                simp only [Option.some.injEq, Sum.inr.injEq] at ha2
                subst ha2
                simp only [Bool.and_eq_true, Nat.beq_eq, Nat.blt_eq] at hb
                obtain ⟨⟨⟨⟨hb1, hb2⟩, hb3⟩, hb4⟩, hb5⟩ := hb
                have hb4 := Nat.le_of_ble_eq_true hb4
                simp only [pwChkL, Bool.and_eq_true, Nat.beq_eq, b1, cond_false, hmc, decide_eq_true_eq] at hk
                obtain ⟨hlen, ⟨hk1, hk2⟩, hk3⟩ := hk
                subst hlen
                have hbig : Nat.ble 1000 r.1 = false := by
                  cases h9 : Nat.ble 1000 r.1 with
                  | false => rfl
                  | true =>
                    have h8 := Nat.le_of_ble_eq_true h9
                    obtain ⟨l9, y1, y2⟩ := pwMeth_at hmc
                    have y3 := (List.getElem?_eq_some_iff.mp y1).1
                    have y4 : pwMs.length = 11 := rfl
                    omega
                simp only [pwChkX, hbig, Bool.false_or, hmc, Bool.and_eq_true, pwKd, decide_eq_true_eq] at hX
                obtain ⟨hX1, hX2, hX3⟩ := hX
                have hn163 : r.1 ≠ 163 := fun e9 => by rw [e9] at hX1; exact absurd hX1 (by decide)
                obtain ⟨q, hq, hqk⟩ := pwAllM hmc hn163
                have hq0 : q.1 = 2 := Option.some.inj (hqk.symm.trans hX1)
                have hM := ih2 r.1 mc hmc hn163 (.ref b :: (st.take mc.2.1.2.2).reverse) g w o1 (by show (pwMkl (st.take mc.2.1.2.2).reverse).length + 1 ≤ _; omega) hcal
                exact pwS_call (rest := rest) ih C hm hL hS h1 h2 g1 g2 hrc hrs rfl hrun (pwRunI (r := r) C hq hq0 hk3 hX3 (List.isEmpty_iff.mp hX2) hM hk1 hk2 hR hS hb2 hL.1 (by rw [← hdr]; exact pwTD _ st) (Nat.le_of_ble_eq_true hb3) d hr1 hr2)
            · cases ha2
          case new => exact absurd ha2 (pwCallN _ _ _ _ _ _ _ _ _ _)
          case ireturn => exact absurd ha2 (pwCallR1 _ _ _ _ _ _ _ _ _)
          case lreturn => exact absurd ha2 (pwCallR2 _ _ _ _ _ _ _ _ _)
          case areturn => exact absurd ha2 (pwCallR3 _ _ _ _ _ _ _ _ _)
          case return_ => exact absurd ha2 (pwCallR4 _ _ _ _ _ _ _ _ _)
          all_goals cases hs
theorem pwS12 {K : pwKK} {l : Launch} (hl : l.stackTraces = false) : ∀ n9 : Nat, pwS1 K l n9
  | 0 => fun _ _ _ _ _ _ _ _ _ h => by cases h
  | n9 + 1 => pwS1_succ (pwS12 hl n9) (pwS2_of hl (pwS12 hl n9))

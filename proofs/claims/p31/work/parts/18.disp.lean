/-! every run of the small machine is a run of the machine -/
def pwMono (g : pwG) (a9 : Option pwNX) : Prop := ∀ z, a9 = some z → (∀ y, z = .inl y → g.2.2.1 ≤ y.2.2.2.1.2.2.1 ∧ g.2.2.2 ≤ y.2.2.2.1.2.2.2) ∧ (∀ o : pwO, z = .inr (.inl o) → g.2.2.1 ≤ o.2.1.2.2.1 ∧ g.2.2.2 ≤ o.2.1.2.2.2)
theorem pwMono_no {g : pwG} : pwMono g none := fun _ h => by cases h
theorem pwMono_go {g g' : pwG} {pc : Nat} {L : pwLL} {st : List Value} {w : pwW} (h1 : g.2.2.1 ≤ g'.2.2.1) (h2 : g.2.2.2 ≤ g'.2.2.2) : pwMono g (pwGo pc L st g' w) := fun z h => by
  cases h
  exact ⟨fun y hy => (by cases hy; exact ⟨h1, h2⟩), fun o ho => (by cases ho)⟩
theorem pwMono_gg {g : pwG} {pc : Nat} {L : pwLL} {st : List Value} {w : pwW} : pwMono g (pwGo pc L st g w) := pwMono_go (Nat.le_refl _) (Nat.le_refl _)
theorem pwMono_ret {g : pwG} {v : Option Value} {w : pwW} : pwMono g (pwRet v g w) := fun z h => by
  cases h
  exact ⟨fun y hy => (by cases hy), fun o ho => (by cases ho; exact ⟨Nat.le_refl _, Nat.le_refl _⟩)⟩
theorem pwMono_thr {g : pwG} {k : Nat} {w : pwW} : pwMono g (pwThr k g w) := fun z h => by
  cases h
  exact ⟨fun y hy => (by cases hy), fun o ho => (by cases ho; exact ⟨Nat.le_succ _, Nat.le_add_right _ _⟩)⟩
theorem pwMono_call {g : pwG} {cc : pwC} : pwMono g (some (.inr (.inr cc))) := fun z h => by
  cases h
  exact ⟨fun y hy => (by cases hy), fun o ho => (by cases ho)⟩
theorem pwMono_bind {α : Type} {g : pwG} {x9 : Option α} {f : α → Option pwNX} (h : ∀ v, pwMono g (f v)) : pwMono g (x9.bind f) := by
  cases x9 with
  | none => exact pwMono_no
  | some v => exact h v
theorem pwMono_ite {g : pwG} {c9 : Prop} [Decidable c9] {x9 y9 : Option pwNX} (h1 : pwMono g x9) (h2 : pwMono g y9) : pwMono g (if c9 then x9 else y9) := by
  by_cases h : c9
  · rw [if_pos h]; exact h1
  · rw [if_neg h]; exact h2
theorem pwMono_cond {g : pwG} {b9 : Bool} {x9 y9 : Option pwNX} (h1 : pwMono g x9) (h2 : pwMono g y9) : pwMono g (bif b9 then x9 else y9) := by
  cases b9
  · exact h2
  · exact h1
set_option maxHeartbeats 1000000 in
theorem pwAct1_mono (x9 : Instr) (len : Nat) (r : pwRP) (mi pc : Nat) (L : pwLL) (st : List Value) (g : pwG) (w : pwW) : pwMono g (pwAct1 x9 len r mi pc L st g w) := by
  cases x9 <;> simp only [pwAct1] <;> repeat' (first | with_reducible exact pwMono_no | with_reducible exact pwMono_gg | with_reducible exact pwMono_ret | with_reducible exact pwMono_thr | with_reducible exact pwMono_call | with_reducible refine pwMono_bind (fun v9 => ?_) | with_reducible refine pwMono_ite ?_ ?_ | with_reducible refine pwMono_cond ?_ ?_ | exact pwMono_go (Nat.le_succ _) (Nat.le_add_right _ _) | split)
theorem pwAct_mono {so : Nat → Nat} {mi pc : Nat} {L : pwLL} {st : List Value} {g : pwG} {w : pwW} : pwMono g (pwAct so mi pc L st g w) := by
  unfold pwAct
  refine pwMono_bind (fun e9 => ?_)
  split
  · exact pwMono_gg
  · exact pwAct1_mono _ _ _ _ _ _ _ _ _
theorem pwRun_mono {so : Nat → Nat} : ∀ (n9 mi pc : Nat) (L : pwLL) (st : List Value) (g : pwG) (w : pwW) (o : pwO), pwRun so n9 mi pc L st g w = some o → g.2.2.1 ≤ o.2.1.2.2.1 ∧ g.2.2.2 ≤ o.2.1.2.2.2
  | 0, _, _, _, _, _, _, _, h => by cases h
  | n9 + 1, mi, pc, L, st, g, w, o, h => by
    have h : pwWrp (pwRun so n9) mi pc L g w (pwAct so mi pc L st g w) = some o := h
    cases ha : pwAct so mi pc L st g w with
    | none => rw [ha] at h; cases h
    | some z =>
      rw [ha] at h
      obtain ⟨m1, m2⟩ := pwAct_mono z ha
      match z, h, m1, m2 with
      | .inl y, h, m1, _ =>
        obtain ⟨q1, q2⟩ := pwRun_mono n9 _ _ _ _ _ _ _ h
        obtain ⟨q3, q4⟩ := m1 y rfl
        exact ⟨Nat.le_trans q3 q1, Nat.le_trans q4 q2⟩
      | .inr (.inl o9), h, _, m2 =>
        cases h
        exact m2 _ rfl
      | .inr (.inr cc), h, _, _ =>
        have h : pwAft (pwRun so n9) mi pc L cc (pwRun so n9 cc.1.1 0 cc.1.2 [] g w) = some o := h
        cases hr : pwRun so n9 cc.1.1 0 cc.1.2 [] g w with
        | none => rw [hr] at h; cases h
        | some o1 =>
          rw [hr] at h
          obtain ⟨q1, q2⟩ := pwRun_mono n9 _ _ _ _ _ _ _ hr
          obtain ⟨r1, g1, w1⟩ := o1
          cases r1 with
          | inl v =>
            obtain ⟨q3, q4⟩ := pwRun_mono n9 _ _ _ _ _ _ _ h
            exact ⟨Nat.le_trans q1 q3, Nat.le_trans q2 q4⟩
          | inr k =>
            simp only [pwAft] at h
            cases hh : pwHnd mi pc k with
            | none =>
              rw [hh] at h
              cases hb : pwNoH mi with
              | false => simp only [hb, cond_false] at h; cases h
              | true => simp only [hb, cond_true] at h; cases h; exact ⟨q1, q2⟩
            | some q =>
              rw [hh] at h
              cases hb : (pwFr L q.2 && Nat.blt q.2 L.length) with
              | false => simp only [hb, cond_false] at h; cases h
              | true =>
                simp only [hb, cond_true] at h
                obtain ⟨q3, q4⟩ := pwRun_mono n9 _ _ _ _ _ _ _ h
                exact ⟨Nat.le_trans q1 q3, Nat.le_trans q2 q4⟩
/-- no end, no call -/
def pwInl (a9 : Option pwNX) : Prop := ∀ z, a9 ≠ some (.inr z)
theorem pwInl_no : pwInl none := fun _ h => by cases h
theorem pwInl_go {g : pwG} {pc : Nat} {L : pwLL} {st : List Value} {w : pwW} : pwInl (pwGo pc L st g w) := fun z h => by cases h
theorem pwInl_bind {α : Type} {x9 : Option α} {f : α → Option pwNX} (h : ∀ v, pwInl (f v)) : pwInl (x9.bind f) := by
  cases x9 with
  | none => exact pwInl_no
  | some v => exact h v
theorem pwInl_ite {c9 : Prop} [Decidable c9] {x9 y9 : Option pwNX} (h1 : pwInl x9) (h2 : pwInl y9) : pwInl (if c9 then x9 else y9) := by
  by_cases h : c9
  · rw [if_pos h]; exact h1
  · rw [if_neg h]; exact h2
theorem pwInl_cond {b9 : Bool} {x9 y9 : Option pwNX} (h1 : pwInl x9) (h2 : pwInl y9) : pwInl (bif b9 then x9 else y9) := by
  cases b9
  · exact h2
  · exact h1
def pwSimple : Instr → Bool
  | .ireturn => false
  | .lreturn => false
  | .areturn => false
  | .return_ => false
  | .new _ => false
  | .invokevirtual _ => false
  | .invokespecial _ => false
  | .invokestatic _ => false
  | _ => true
set_option maxHeartbeats 1000000 in
theorem pwAct1_inl (x9 : Instr) (hx9 : pwSimple x9 = true) (len : Nat) (r : pwRP) (mi pc : Nat) (L : pwLL) (st : List Value) (g : pwG) (w : pwW) : pwInl (pwAct1 x9 len r mi pc L st g w) := by
  cases x9 <;> first | (cases hx9; done) | (simp only [pwAct1]; repeat' (first | with_reducible exact pwInl_no | with_reducible exact pwInl_go | with_reducible refine pwInl_bind (fun v9 => ?_) | with_reducible refine pwInl_ite ?_ ?_ | with_reducible refine pwInl_cond ?_ ?_ | split))
/-- an end or a call, not a step -/
def pwInr (a9 : Option pwNX) : Prop := ∀ z, a9 ≠ some (.inl z)
theorem pwInr_no : pwInr none := fun _ h => by cases h
theorem pwInr_re {v : Option Value} {g : pwG} {w : pwW} : pwInr (pwRet v g w) := fun z h => by cases h
theorem pwInr_r {q9 : pwO ⊕ pwC} : pwInr (some (.inr q9)) := fun z h => by cases h
theorem pwInr_bind {α : Type} {x9 : Option α} {f : α → Option pwNX} (h : ∀ v, pwInr (f v)) : pwInr (x9.bind f) := by
  cases x9 with
  | none => exact pwInr_no
  | some v => exact h v
theorem pwInr_cond {b9 : Bool} {x9 y9 : Option pwNX} (h1 : pwInr x9) (h2 : pwInr y9) : pwInr (bif b9 then x9 else y9) := by
  cases b9
  · exact h2
  · exact h1
theorem pwAct1_vir (i len : Nat) (r : pwRP) (mi pc : Nat) (L : pwLL) (st : List Value) (g : pwG) (w : pwW) : pwInr (pwAct1 (.invokevirtual i) len r mi pc L st g w) := by
  simp only [pwAct1]; repeat' (first | with_reducible exact pwInr_no | exact pwInr_r | refine pwInr_bind (fun v9 => ?_) | refine pwInr_cond ?_ ?_ | split)
theorem pwAct1_ire (len : Nat) (r : pwRP) (mi pc : Nat) (L : pwLL) (st : List Value) (g : pwG) (w : pwW) : pwInr (pwAct1 .ireturn len r mi pc L st g w) := by
  simp only [pwAct1]; repeat' (first | with_reducible exact pwInr_no | exact pwInr_re | refine pwInr_bind (fun v9 => ?_) | refine pwInr_cond ?_ ?_ | split)
theorem pwAct1_lre (len : Nat) (r : pwRP) (mi pc : Nat) (L : pwLL) (st : List Value) (g : pwG) (w : pwW) : pwInr (pwAct1 .lreturn len r mi pc L st g w) := by
  simp only [pwAct1]; repeat' (first | with_reducible exact pwInr_no | exact pwInr_re | refine pwInr_bind (fun v9 => ?_) | refine pwInr_cond ?_ ?_ | split)
theorem pwAct1_are (len : Nat) (r : pwRP) (mi pc : Nat) (L : pwLL) (st : List Value) (g : pwG) (w : pwW) : pwInr (pwAct1 .areturn len r mi pc L st g w) := by
  simp only [pwAct1]; repeat' (first | with_reducible exact pwInr_no | exact pwInr_re | refine pwInr_bind (fun v9 => ?_) | refine pwInr_cond ?_ ?_ | split)
theorem pwAct1_vre (len : Nat) (r : pwRP) (mi pc : Nat) (L : pwLL) (st : List Value) (g : pwG) (w : pwW) : pwInr (pwAct1 .return_ len r mi pc L st g w) := by
  simp only [pwAct1]; repeat' (first | with_reducible exact pwInr_no | exact pwInr_re | refine pwInr_bind (fun v9 => ?_) | refine pwInr_cond ?_ ?_ | split)
/-- no end -/
def pwNoE (a9 : Option pwNX) : Prop := ∀ o : pwO, a9 ≠ some (.inr (.inl o))
theorem pwNoE_no : pwNoE none := fun _ h => by cases h
theorem pwNoE_go {g : pwG} {pc : Nat} {L : pwLL} {st : List Value} {w : pwW} : pwNoE (pwGo pc L st g w) := fun z h => by cases h
theorem pwNoE_c {q9 : pwC} : pwNoE (some (.inr (.inr q9))) := fun z h => by cases h
theorem pwNoE_bind {α : Type} {x9 : Option α} {f : α → Option pwNX} (h : ∀ v, pwNoE (f v)) : pwNoE (x9.bind f) := by
  cases x9 with
  | none => exact pwNoE_no
  | some v => exact h v
theorem pwNoE_cond {b9 : Bool} {x9 y9 : Option pwNX} (h1 : pwNoE x9) (h2 : pwNoE y9) : pwNoE (bif b9 then x9 else y9) := by
  cases b9
  · exact h2
  · exact h1
theorem pwCallO_v (i len : Nat) (r : pwRP) (mi pc : Nat) (L : pwLL) (st : List Value) (g : pwG) (w : pwW) : pwNoE (pwAct1 (.invokevirtual i) len r mi pc L st g w) := by
  simp only [pwAct1]; repeat' (first | with_reducible exact pwNoE_no | exact pwNoE_c | refine pwNoE_bind (fun v9 => ?_) | refine pwNoE_cond ?_ ?_ | split)
theorem pwCallO_s (i len : Nat) (r : pwRP) (mi pc : Nat) (L : pwLL) (st : List Value) (g : pwG) (w : pwW) : pwNoE (pwAct1 (.invokespecial i) len r mi pc L st g w) := by
  simp only [pwAct1]; repeat' (first | with_reducible exact pwNoE_no | exact pwNoE_c | exact pwNoE_go | refine pwNoE_bind (fun v9 => ?_) | refine pwNoE_cond ?_ ?_ | split)
theorem pwCallO_c (i len : Nat) (r : pwRP) (mi pc : Nat) (L : pwLL) (st : List Value) (g : pwG) (w : pwW) : pwNoE (pwAct1 (.invokestatic i) len r mi pc L st g w) := by
  simp only [pwAct1]; repeat' (first | with_reducible exact pwNoE_no | exact pwNoE_c | exact pwNoE_go | refine pwNoE_bind (fun v9 => ?_) | refine pwNoE_cond ?_ ?_ | split)
section PWD
variable {K : pwKK} {p : Program} {l : Launch} {e : Env} {R : Room} {s : State} {m : MethodId} {args : Array Value} {below : List Frame} {meth : Method} {c : Code} {Q : State → Prop} {k0 s0 : Nat} {mt : pwMT} {pc len mi : Nat} {r : pwRP} {L : pwLL} {st : List Value} {g : pwG} {w : pwW} {x : Instr} {y : pwS} {o : pwO}
set_option maxHeartbeats 2000000 in
/-- one step -/
theorem pwDisp (C : pwCx K p l R s m args meth c mt) (hc : pwCod mi pc = some (x, len, r)) (d : decode mt.1.2.2 pc = .ok (x, len)) (hk : pwChkL mt pc x len r = true) (hrc : y.2.2.2.1.2.2.1 ≤ R.cells + k0) (hrs : y.2.2.2.1.2.2.2 ≤ R.slots + s0) (ha : pwAct K.2.2.2.2 mi pc L st g w = some (.inl y)) (kk : pwV K p l e R s m args below meth c Q k0 s0 mt y) : pwV K p l e R s m args below meth c Q k0 s0 mt (pc, L, st, g, w) := by
  unfold pwAct at ha
  rw [hc, Option.bind_some] at ha
  dsimp only at ha
  cases x
  case iconst => exact pwI_iconst C d hk ha kk
  case bipush => exact pwI_bipush C d hk ha kk
  case sipush => exact pwI_sipush C d hk ha kk
  case lconst => exact pwI_lconst C d hk ha kk
  case ldc => exact pwI_ldc C d hk ha kk
  case ldc_w => exact pwI_ldc_w C d hk ha kk
  case ldc2_w => exact pwI_ldc2_w C d hk ha kk
  case iload_n => exact pwI_iload_n C d hk ha kk
  case iload => exact pwI_iload C d hk ha kk
  case lload_n => exact pwI_lload_n C d hk ha kk
  case lload => exact pwI_lload C d hk ha kk
  case aload_n => exact pwI_aload_n C d hk ha kk
  case aload => exact pwI_aload C d hk ha kk
  case istore_n => exact pwI_istore_n C d hk ha kk
  case istore => exact pwI_istore C d hk ha kk
  case astore_n => exact pwI_astore_n C d hk ha kk
  case astore => exact pwI_astore C d hk ha kk
  case lstore_n => exact pwI_lstore_n C d hk ha kk
  case lstore => exact pwI_lstore C d hk ha kk
  case iinc => exact pwI_iinc C d hk ha kk
  case dup => exact pwI_dup C d hk ha kk
  case dup2 => exact pwI_dup2 C d hk ha kk
  case pop => exact pwI_pop C d hk ha kk
  case iadd => exact pwI_iadd C d hk ha kk
  case isub => exact pwI_isub C d hk ha kk
  case imul => exact pwI_imul C d hk ha kk
  case idiv => exact pwI_idiv C d hk ha kk
  case irem => exact pwI_irem C d hk ha kk
  case iand => exact pwI_iand C d hk ha kk
  case ior => exact pwI_ior C d hk ha kk
  case ishl => exact pwI_ishl C d hk ha kk
  case ishr => exact pwI_ishr C d hk ha kk
  case ladd => exact pwI_ladd C d hk ha kk
  case lsub => exact pwI_lsub C d hk ha kk
  case lmul => exact pwI_lmul C d hk ha kk
  case ldiv => exact pwI_ldiv C d hk ha kk
  case lrem => exact pwI_lrem C d hk ha kk
  case land => exact pwI_land C d hk ha kk
  case lor => exact pwI_lor C d hk ha kk
  case lshl => exact pwI_lshl C d hk ha kk
  case lshr => exact pwI_lshr C d hk ha kk
  case lushr => exact pwI_lushr C d hk ha kk
  case lcmp => exact pwI_lcmp C d hk ha kk
  case i2l => exact pwI_i2l C d hk ha kk
  case l2i => exact pwI_l2i C d hk ha kk
  case goto => exact pwI_goto C d hk ha kk
  case ifnull => exact pwI_ifnull C d hk ha kk
  case ifnonnull => exact pwI_ifnonnull C d hk ha kk
  case tableswitch => exact pwI_tableswitch C d hk ha kk
  case lookupswitch => exact pwI_lookupswitch C d hk ha kk
  case getfield => exact pwI_getfield C d hk ha kk
  case putfield => exact pwI_putfield C d hk ha kk
  case iaload => exact pwI_iaload C d hk ha kk
  case iastore => exact pwI_iastore C d hk ha kk
  case baload => exact pwI_baload C d hk ha kk
  case bastore => exact pwI_bastore C d hk ha kk
  case laload => exact pwI_laload C d hk ha kk
  case lastore => exact pwI_lastore C d hk ha kk
  case aaload => exact pwI_aaload C d hk ha kk
  case aastore => exact pwI_aastore C d hk ha kk
  case arraylength => exact pwI_arraylength C d hk ha kk
  case lneg => exact pwI_lneg C d hk ha kk
  case ifCond cc off => cases cc <;> first | exact pwI_ifCond_eq C d hk ha kk | exact pwI_ifCond_ne C d hk ha kk | exact pwI_ifCond_lt C d hk ha kk | exact pwI_ifCond_ge C d hk ha kk | exact pwI_ifCond_gt C d hk ha kk | exact pwI_ifCond_le C d hk ha kk
  case if_icmp cc off => cases cc <;> first | exact pwI_if_icmp_eq C d hk ha kk | exact pwI_if_icmp_ne C d hk ha kk | exact pwI_if_icmp_lt C d hk ha kk | exact pwI_if_icmp_ge C d hk ha kk | exact pwI_if_icmp_gt C d hk ha kk | exact pwI_if_icmp_le C d hk ha kk
  case newarray => exact pwI_newarray hrc hrs C d hk ha kk
  case anewarray => exact pwI_anewarray hrc hrs C d hk ha kk
  case new => exact pwI_new hrc hrs C d hk ha kk
  case invokestatic => exact pwI_static hrc hrs C d hk ha kk
  case invokespecial => exact pwI_special C d hk ha kk
  case invokevirtual => exact absurd ha (pwAct1_vir _ _ _ _ _ _ _ _ _ y)
  case ireturn => exact absurd ha (pwAct1_ire _ _ _ _ _ _ _ _ y)
  case lreturn => exact absurd ha (pwAct1_lre _ _ _ _ _ _ _ _ y)
  case areturn => exact absurd ha (pwAct1_are _ _ _ _ _ _ _ _ y)
  case return_ => exact absurd ha (pwAct1_vre _ _ _ _ _ _ _ _ y)
  case getstatic i =>
    simp only [pwGo, Option.some.injEq, Sum.inl.injEq] at ha; subst ha
    simp only [pwChkL, Bool.and_eq_true, Nat.beq_eq] at hk
    obtain ⟨hlen, hk⟩ := hk
    subst hlen
    cases hq : pwSt[r.1]? with
    | none => rw [hq] at hk; cases hk
    | some nm =>
      rw [hq] at hk
      dsimp only at hk
      intro H locs cells slots ls hR hS hL h1 h2
      refine va_gets C.1 C.2.1 (C.kb.2.2.2.1 r.1 nm hq) hS C.2.2.2.2.1 (C.2.2.2.2.2.1 _ (pwIn_mem hk)) (fun _ h => h) d ?_
      exact kk H locs cells slots ls hR hS hL h1 h2
  all_goals exact absurd ha (fun h9 => by cases h9)
/-- a body's end -/
theorem pwEnd (C : pwCx K p l R s m args meth c mt) (hm : pwMeth mi = some mt) (hc : pwCod mi pc = some (x, len, r)) (d : decode mt.1.2.2 pc = .ok (x, len)) (hk : pwChkL mt pc x len r = true) (hrc : o.2.1.2.2.1 ≤ R.cells + k0) (hrs : o.2.1.2.2.2 ≤ R.slots + s0) (ha : pwAct K.2.2.2.2 mi pc L st g w = some (.inr (.inl o))) : pwV K p l e R s m args below meth c (pwQQ K below args s o k0 s0) k0 s0 mt (pc, L, st, g, w) := by
  unfold pwAct at ha
  rw [hc, Option.bind_some] at ha
  dsimp only at ha
  cases hs : pwSimple x with
  | true =>
    split at ha
    · exact absurd ha (fun h9 => by cases h9)
    · exact absurd ha (pwAct1_inl _ hs _ _ _ _ _ _ _ _ _)
  | false =>
    cases x
    case new => exact pwI_thr hrc hrs C d hk ha
    case ireturn => exact pwI_ireturn C hm d hk ha
    case lreturn => exact pwI_lreturn C hm d hk ha
    case areturn => exact pwI_areturn C hm d hk ha
    case return_ => exact pwI_return C hm d hk ha
    case invokevirtual i =>
      exfalso
      revert ha
      show pwAct1 (.invokevirtual i) len r mi pc L st g w ≠ _
      exact pwCallO_v i len r mi pc L st g w o
    case invokespecial i =>
      exfalso
      revert ha
      show pwAct1 (.invokespecial i) len r mi pc L st g w ≠ _
      exact pwCallO_s i len r mi pc L st g w o
    case invokestatic i =>
      exfalso
      revert ha
      show pwAct1 (.invokestatic i) len r mi pc L st g w ≠ _
      exact pwCallO_c i len r mi pc L st g w o
    all_goals cases hs
end PWD

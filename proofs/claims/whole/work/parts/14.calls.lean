/-! ===== CONTRACTS AND CALLS ===== -/
def cwd (K : KT) (y : MethodName) : Cond := match K.2.2.2.1 with
  | [] => .code y K.1 K.2.2.2.2.1 K.2.2.2.2.2
  | h :: t => .codeWith y K.1 K.2.2.2.2.1 K.2.2.2.2.2 (h :: t)
/-- the card K is that of the method y: its word stands in the tables, its class is initialised there -/
def Cd (K : KT) (y : MethodName) : Prop := K.2.1 = y.cls ∧ K.2.2.1 = y.name ∧ plainName y.cls = true ∧ (y.cls ≠ "java/lang/invoke/MethodHandle" ∧ y.cls ≠ "java/lang/invoke/VarHandle") ∧ Wd (cwd K y) ∧ Wd (.initialized y.cls) ∧ K.2.2.2.2.1 ≤ 17
theorem cwd_spec {K : KT} {y : MethodName} {a : Array Value} {s : State} {m : MethodId} (hn : s.methodNamed? y = some m) (h : (cwd K y).before a s = true) :
    ∃ meth c, s.vm.method? m = some meth ∧ meth.code = some c ∧ c.code = K.1 ∧ c.maxLocals = K.2.2.2.2.1 ∧ meth.sig.returnType = K.2.2.2.2.2 ∧ meth.locks = false ∧ c.exceptionTable.toList.map (fun x => (x.startPc, x.endPc, x.handlerPc, x.catchType)) = K.2.2.2.1 ∧ parseMethodDescriptor y.desc = some meth.sig := by
  unfold cwd at h
  split at h
  · rename_i hh
    obtain ⟨meth, c, h1, h2, h3, h4, h5, h6, h7, h8⟩ := Cond.code_spec hn h
    refine ⟨meth, c, h1, h2, h3, h4, h5, h6, ?_, h8⟩
    rw [hh]
    have : c.exceptionTable.toList = [] := by
      have h9 : c.exceptionTable = #[] := by simpa using h7
      rw [h9]
    rw [this]
    rfl
  · rename_i a1 a2 hh
    obtain ⟨m', meth, c, g0, h1, h2, h3, h4, h5, h6, h7, h8⟩ := Cond.codeWith_spec h
    cases hn.symm.trans g0
    refine ⟨meth, c, h1, h2, h3, h4, h6, h7, ?_, h8⟩
    rw [hh]
    exact h5
theorem cwd_named {K : KT} {y : MethodName} {a : Array Value} {s : State} (h : (cwd K y).before a s = true) : ∃ m, s.methodNamed? y = some m := by
  unfold cwd at h
  split at h
  · exact Cond.code_named h
  · obtain ⟨m', meth, c, g0, -⟩ := Cond.codeWith_spec h
    exact ⟨m', g0⟩
/-- THE CONTRACT of the method y with these arguments, from this memory: it comes to an end with Po, within the room R -/
def Sp (C : CT) (l : Launch) (K : KT) (y : MethodName) (R : RT) (as : List Value) (S : ShT) (I : DI) (J : DJ) (Po : PoT) : Prop :=
  MetFree l y (headSpec [cwd K y] (RM R)) (fun a U => a = (as.map (cv C)).toArray ∧ MR C S I J U.heap ∧ GG C U) (fun _ _ _ _ _ => True) (fun _ st o t => QX C Po o t ∧ EX C R st t)
theorem lv_args_map (C : CT) : ∀ (as : List Value) (i : Nat), lv_args i (as.map (cv C)) = lC C (lv_args i as)
  | [], i => rfl
  | v :: r, i => by
    have h := lv_args_map C r (if v.category = 2 then i + 2 else i + 1)
    simp only [List.map_cons, lv_args, cv_cat, lC] at h ⊢
    rw [h]
    try rfl
theorem lg_sl_len (C : CT) : ∀ as : List Value, (lg_sl (as.map (cv C))).length = (lg_sl as).length
  | [] => rfl
  | v :: r => by
    have h := lg_sl_len C r
    cases v <;> simp_all [lg_sl, cv] <;> rfl
theorem Sp.of {C : CT} {l : Launch} {K : KT} {y : MethodName} {R : RT} {as : List Value} {S : ShT} {I : DI} {J : DJ} {Po : PoT} (hC : OKC C l) (hK : Cd K y) (hlen : (lg_sl as).length ≤ K.2.2.2.2.1) (h : V C l K R Po 0 (lv_args 0 as) [] S I J (0, 0)) : Sp C l K y R as S I J Po := by
  obtain ⟨k1, k2, k3, k4, k5, k6, k7⟩ := hK
  refine MetFree.of_bodyS (code := K.1) (maxLocals := K.2.2.2.2.1) (ret := K.2.2.2.2.2) k3 ?_ ?_
  · intro args s m hp hn
    obtain ⟨meth, c, h1, h2, h3, h4, h5, h6, -, -⟩ := cwd_spec hn (atoms_spec (ws := [cwd K y]) hp _ List.mem_cons_self)
    exact ⟨meth, c, h1, h2, h3, h4, h5, h6⟩
  · intro p e s m args below meth c s₁ B hml hP _
    obtain ⟨rfl, hM, hG⟩ := hP
    have hh0 : s₁.heap = s.heap := by rw [B.state]; rfl
    obtain ⟨meth', c', h1, h2, h3, h4, h5, h6, h7, -⟩ := cwd_spec B.named (atoms_spec (ws := [cwd K y]) B.pre _ List.mem_cons_self)
    cases B.method.symm.trans h1
    cases (Stand.of_body B).code.symm.trans h2
    have hI : Iv C l K p s m meth c := ⟨hC, B.exec, B.bytes, B.returns, hml, by rw [k1]; exact findClass_of_methodNamed B.named, B.notSynchronized, h7, hG, ⟨S, I, J, hM⟩, by rw [k2]; exact (name_of_methodNamed B.named B.method).1⟩
    have hl := lv_entry (as.map (cv C)) (n := K.2.2.2.2.1) (by rw [lg_sl_len]; exact hlen)
    have w := h p e s m (as.map (cv C)).toArray below meth c hI s.heap _ [] hM (by rw [lv_args_map] at hl; exact hl) va_S.rf (Nat.zero_le _) (Nat.zero_le _)
    obtain ⟨t, a1, o, b1, b2, b3⟩ := w s₁ hh0 (Stand.of_body B)
    refine ⟨t, o, ?_, b1, b2, b3⟩
    rw [lg_entry_eq]
    exact a1
section Run
variable {C : CT} {l : Launch} {K K' : KT} {R R' : RT} {Po : PoT} {S S' : ShT} {I I' : DI} {J J' : DJ} {u : Nat × Nat}
variable {p : Program} {e : Env} {s : State} {m : MethodId} {args : Array Value} {below : List Frame} {meth : Method} {c : Code} {T : State} {locs : List Loc} {uc us : Nat} {y : MethodName} {as : List Value}
/-- the callee's run: it comes back, or it throws -/
theorem Sp.run (X : Stand p l e (RM R) s m args below meth c T locs uc us) (hC : OKC C l) (hK : Cd K' y) (hSp : Sp C l K' y R' as S I J Po) (hM : MR C S I J T.heap) (hG : GG C T) {mk : MethodId} (hn : T.methodNamed? y = some mk)
    {g : JFrame} (hg : g.method = m) (hsize : g.locals.size = c.maxLocals) {ig : Instr} (hdg : decode c.code g.pc = .ok (ig, 3)) (hW : 2 * g.monitorRoom + (g.stack.map fun v => v.category).sum ≤ 8) (hfr : R'.1 + 1 ≤ R.1) (hcl : uc + R'.2.1 ≤ R.2.1) (hsl : us + R'.2.2 ≤ R.2.2) :
    ∃ (r : RsT) (S' : ShT) (I' : DI) (J' : DJ) (T' : State) (Lc : List Loc), Po r S' I' J' ∧ MR C S' I' J' T'.heap ∧ GG C T' ∧ Stand p l e (RM R) s m args below meth c T' (locs ++ Lc) (uc + R'.2.1) (us + R'.2.2) ∧ (∀ q ∈ Lc, c0 C ≤ q.base) ∧
      match r with
      | .inl v => Steps p.tables e below (doInvoke e (T.setTop g) [] mk (as.map (cv C)).toArray).1 (T'.setTop { g with pc := g.pc + 3, stack := (v.map (cv C)).toList ++ g.stack })
      | .inr ci => ∃ k, S'.1 = k + 1 ∧ (S'.2.1 k).1 = ci ∧ Steps p.tables e below (doInvoke e (T.setTop g) [] mk (as.map (cv C)).toArray).1 ((T'.setTop g).pushFrame (.throwing (c0 C + k))) := by
  obtain ⟨k1, k2, k3, k4, k5, k6, k7⟩ := hK
  have hcw : (cwd K' y).before (as.map (cv C)).toArray T = true := k5.at hC hG.1 _
  obtain ⟨methY, cY, hmY, hcY, -, hlY, -, -, -, -⟩ := cwd_spec hn hcw
  obtain ⟨kY, hkY, -⟩ := className_of_methodNamed hn
  have hinitY : kY.init = .initialized := Cond.initialized_spec (findClass_of_methodNamed hn) hkY (k6.at hC hG.1 (as.map (cv C)).toArray)
  have h : At T g.method c below := by rw [hg]; exact X.here
  have happ : (headSpec [cwd K' y] (RM R')).appliesLoose y e.platform (T.calling g mk (as.map (cv C)).toArray) = true :=
    Spec.appliesLoose_calling (g := g) h hdg hn hkY hinitY
      (X.room_calling (g := g) (R' := RM R') hsize hmY hcY hfr (by rw [hlY]; show _ + _ + 36 * R'.1 ≤ 36 * R.1; omega) hcl hsl) (atoms_intro fun w hw => by
        rw [List.mem_singleton.mp hw]
        exact hcw)
  obtain ⟨mid, hmid⟩ := h.above
  have hfr2 : (T.setTop g).frames = (.java g :: mid) ++ below := by rw [State.frames_setTop' g h.top, hmid]; rfl
  have hcall : ∃ o s₂, Steps p.tables e below (doInvoke e (T.setTop g) [] mk (as.map (cv C)).toArray).1 s₂ ∧ s₂.status = .running ∧ Ended s₂ (T.setTop g).frames o ∧ (QX C Po o s₂ ∧ EX C R' (T.calling g mk (as.map (cv C)).toArray) s₂) :=
    Steps.callFree hSp p X.admits X.cas X.clock (acts := []) hfr2 happ ⟨rfl, hM, hG⟩ trivial
  obtain ⟨o, s₂, hsteps, -, hend, ⟨r, S', I', J', q1, q2, q3, q4⟩, Lc, e1, e2, e3⟩ := hcall
  rw [State.frames_setTop' g h.top, X.tail] at hend
  cases r with
  | inl v =>
    have q4 : o = .returned (v.map (cv C)) := q4
    subst q4
    obtain ⟨T', X', hW', hB, rfl⟩ := X.outOf hg hdg hend e1 e2
    refine ⟨.inl v, S', I', J', T', Lc, q1, ?_, ?_, X', e3, hsteps⟩
    · exact q2
    · exact q3
  | inr ci =>
    obtain ⟨k, g1, g2, rfl⟩ := q4
    obtain ⟨T', X', hW', hB, rfl⟩ := X.outOfThrown hg hend e1 e2
    refine ⟨.inr ci, S', I', J', T', Lc, q1, ?_, ?_, X', e3, k, g1, g2, hsteps⟩
    · rw [Stand.throwing_heap] at q2
      exact q2
    · exact ⟨by have := q3.1; rw [Stand.throwing_vm] at this; exact this, by have := q3.2; rw [Stand.throwing_heap] at this; exact this⟩
end Run

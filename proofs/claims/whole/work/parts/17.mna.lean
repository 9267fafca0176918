/-! ===== new int[N][M] ===== -/
theorem ao_spec {a : Array Value} {s : State} {t : FieldType} (h : (Cond.arrayOver (.array t)).before a s = true) :
    ∃ comp c k, s.vm.findClass (FieldType.array t).toString = some comp ∧ (s.vm.classes.findIdx? fun (x : Class) => match x.kind with | .array component _ => component == comp | _ => false) = some c ∧ s.vm.classes[c]? = some k ∧ k.kind = .array comp (.array t) ∧ s.vm.findClass ("[" ++ (FieldType.array t).toString) = some c := by
  unfold Cond.before Cond.holds at h
  simp only [Cond.value, beq_iff_eq] at h
  cases hc : s.vm.findClass (FieldType.array t).toString with
  | none => simp [hc] at h
  | some comp =>
    cases hi : (s.vm.classes.findIdx? fun (x : Class) => match x.kind with | .array component _ => component == comp | _ => false) with
    | none =>
      rw [hc, Option.bind_some] at h
      have h' := (congrArg (fun o : Option Nat => (o.bind (fun c => (s.vm.classes[c]?).map fun (k : Class) => match k.kind with | .array _ ty => decide (ty = FieldType.array t) && decide (s.vm.findClass ("[" ++ (FieldType.array t).toString) = some c) | _ => false))) hi).symm.trans h
      simp at h'
    | some c =>
      rw [hc, Option.bind_some] at h
      have h' := (congrArg (fun o : Option Nat => (o.bind (fun c => (s.vm.classes[c]?).map fun (k : Class) => match k.kind with | .array _ ty => decide (ty = FieldType.array t) && decide (s.vm.findClass ("[" ++ (FieldType.array t).toString) = some c) | _ => false))) hi).symm.trans h
      simp only [Option.bind_some] at h'
      cases hk : s.vm.classes[c]? with
      | none => simp [hk] at h'
      | some k =>
        rw [hk, Option.map_some] at h'
        have h2 := Option.some.inj h'
        cases hkind : k.kind with
        | array comp' ty =>
          rw [hkind] at h2
          simp only [Bool.and_eq_true, decide_eq_true_eq] at h2
          have hp := Array.findIdx?_eq_some_iff_getElem.mp hi
          obtain ⟨hlt, hp1, -⟩ := hp
          have he : s.vm.classes[c] = k := by
            have := Array.getElem?_eq_getElem hlt
            rw [hk] at this
            exact (Option.some.inj this).symm
          rw [he, hkind] at hp1
          have hcc : comp' = comp := by simpa using hp1
          exact ⟨comp, c, k, rfl, hi, hk, by rw [hkind, hcc, h2.1], h2.2⟩
        | _ => rw [hkind] at h2; simp at h2
theorem ao_moved {a a' : Array Value} {t : FieldType} {u U : State} (hvm : u.vm.Alike U.vm) (h : (Cond.arrayOver (.array t)).before a u = true) : (Cond.arrayOver (.array t)).before a' U = true := by
  obtain ⟨comp, c, k, h1, h2, h3, h4, h5⟩ := ao_spec h
  obtain ⟨k', hk', he⟩ := hvm.2.2 _ _ h3
  have hi : (U.vm.classes.findIdx? fun (x : Class) => match x.kind with | .array component _ => component == comp | _ => false) = some c := by
    have hb := hvm.bare_eq
    have e1 := va_idx_bare U.vm comp
    have e2 := va_idx_bare u.vm comp
    first | rw [hb] at e2 | rw [← hb] at e2
    exact e1.symm.trans (e2.trans h2)
  have hkind : k'.kind = .array comp (.array t) := by rw [he]; exact h4
  have f1 : U.vm.findClass (FieldType.array t).toString = some comp := by rw [hvm.findClass]; exact h1
  have f2 : U.vm.findClass ("[" ++ (FieldType.array t).toString) = some c := by rw [hvm.findClass]; exact h5
  unfold Cond.before Cond.holds
  simp only [Cond.value]
  rw [f1, Option.bind_some]
  refine (congrArg (fun o : Option Nat => (o.bind (fun c => (U.vm.classes[c]?).map fun (k : Class) => match k.kind with | .array _ ty => decide (ty = FieldType.array t) && decide (U.vm.findClass ("[" ++ (FieldType.array t).toString) = some c) | _ => false) == some true)) hi).trans ?_
  simp [hk', hkind, f2]
theorem mn_ne {H : Heap} {a q : Nat} {x : Cell} (h : q ≠ a) : (H.setIfInBounds a x)[q]? = H[q]? := by
  rw [Array.getElem?_setIfInBounds, if_neg (Ne.symm h)]
theorem mn_eq {H : Heap} {a : Nat} {x : Cell} (h : a < H.size) : (H.setIfInBounds a x)[a]? = some x := by
  rw [Array.getElem?_setIfInBounds, if_pos rfl, if_pos h]
theorem mn_pu {H : Heap} {q : Nat} {x : Cell} (h : q < H.size) : (H.push x)[q]? = H[q]? := by
  rw [Array.getElem?_push, if_neg (Nat.ne_of_lt h)]
theorem mn_sz {k : ClassId} {n : Nat} {F : Nat → Value} : (arrV k n F).slots.size = n := by simp [arrV]
/- one row: the innermost 'make' -/
theorem mn_in {U : State} {e : Env} {E : Jvm.CtlPost} {d : Bool} {acts : List Action} {cI comp : ClassId} {kI : Class} {y : Int32} {M : Nat} {Q : Addr → Jvm.Pre} (hy : ¬ y < 0) (hM : y.toNatClampNeg = M) (hk : U.vm.classes[cI]? = some kI) (hkind : kI.kind = .array comp .int) (hl : ¬ M > e.platform.arrayLengthLimit) (hh : ¬ M * 4 > e.platform.maxHeapBytes) (hc : U.heap.size < e.platform.maxCells) (hs : U.slotsUsed + M ≤ e.platform.maxSlots)
    (hq : ∀ acts', Q U.heap.size d acts' (U.pushCell (arrV cI M (fun _ => .int 0)))) : Jvm.Sem.wp (Jvm.Op.multianewarray.make cI [y]) Q E e d acts U := by
  subst hM
  rw [Jvm.Op.multianewarray.make]
  simp only [Jvm.Sem.wp_bind', Jvm.W.ite, hy, if_false, Jvm.Sem.wp_pure', Jvm.W.theClass, hk, Option.some.injEq, exists_eq_left', hkind]
  refine Jvm.W.newArray_of hk hkind hl hh hc hs rfl fun acts' => ?_
  have h := hq acts'
  rw [← arrV_new] at h
  exact h
section Mna
variable {p : Program} {l : Launch} {e : Env} {R : Room} {s : State} {m : MethodId} {args : Array Value} {below : List Frame} {meth : Method} {c : Code}
/- what holds when i rows hang in the outer array, which lies behind the heap H -/
def mnP (p : Program) (l : Launch) (e : Env) (R : Room) (s : State) (m : MethodId) (args : Array Value) (below : List Frame) (meth : Method) (c : Code) (A : Nat → Prop) (cO cI : ClassId) (N M : Nat) (vm : Vm) (H : Heap) (cells slots i : Nat) (T : State) : Prop :=
  (∃ locs : List Loc, Stand p l e R s m args below meth c T locs (cells + 1 + i) (slots + N + i * M) ∧ va_S A s.heap T.heap locs) ∧ T.vm = vm ∧ T.heap.size = H.size + 1 + i ∧ (∀ q : Nat, q < H.size → T.heap[q]? = H[q]?) ∧ (∀ j : Nat, j < i → T.heap[H.size + 1 + j]? = some (arrV cI M (fun _ => .int 0))) ∧ T.heap[H.size]? = some (arrV cO N (fun j => va_rf (if j < i then some (H.size + 1 + j) else none)))
/- what is known of the classes, the counts and the room -/
def mnK (e : Env) (R : Room) (A : Nat → Prop) (cO cI : ClassId) (N M : Nat) (vm : Vm) (H : Heap) (cells slots : Nat) (y : Int32) : Prop :=
  (∃ kO : Class, vm.classes[cO]? = some kO ∧ kO.kind = .array cI (.array .int)) ∧ (∃ (kI : Class) (comp : ClassId), vm.classes[cI]? = some kI ∧ kI.kind = .array comp .int) ∧ ¬ y < 0 ∧ y.toNatClampNeg = M ∧ ¬ M > e.platform.arrayLengthLimit ∧ ¬ M * 4 > e.platform.maxHeapBytes ∧ A H.size ∧ cells + 1 + N ≤ R.cells ∧ slots + N + N * M ≤ R.slots
theorem mn_turn {A : Nat → Prop} {cO cI : ClassId} {N M cells slots i : Nat} {vm : Vm} {H : Heap} {T : State} {y : Int32} (hK : mnK e R A cO cI N M vm H cells slots y) (hi : i < N) (h : mnP p l e R s m args below meth c A cO cI N M vm H cells slots i T) :
    ∃ T' : State, mnP p l e R s m args below meth c A cO cI N M vm H cells slots (i + 1) T' ∧ ∀ (f : JFrame) (Q : ForInStep PUnit → Jvm.Pre) (E : Jvm.CtlPost) (d : Bool) (acts : List Action), (∀ acts', Q (ForInStep.yield PUnit.unit) true acts' (T'.setTop f)) → Jvm.Sem.wp (Jvm.Op.multianewarray.make cI [y] >>= fun r => (Jvm.writeLoc H.size i (.ref r) >>= fun _ => (Pure.pure (ForInStep.yield PUnit.unit) : Sem (ForInStep PUnit)))) Q E e d acts (T.setTop f) := by
  obtain ⟨⟨kO, hkO, hkO2⟩, ⟨kI, comp, hkI, hkI2⟩, hy, hyM, hl, hh, hA, hc, hs⟩ := hK
  obtain ⟨⟨locs, X, hS⟩, hvm, hz, ho, hr, ht⟩ := h
  have hlt : H.size < T.heap.size := by rw [hz]; omega
  have him : (i + 1) * M ≤ N * M := Nat.mul_le_mul_right M hi
  have hmul : (i + 1) * M = i * M + M := Nat.succ_mul i M
  obtain ⟨r1, r2⟩ := X.roomAbove (a := 1) (b := M) (by omega) (by omega)
  have hu : updV (fun j => va_rf (if j < i then some (H.size + 1 + j) else none)) i (.ref T.heap.size) = fun j => va_rf (if j < i + 1 then some (H.size + 1 + j) else none) := by
    funext j
    rw [hz]
    by_cases ej : j = i
    · subst ej
      simp [updV, va_rf]
    · by_cases hj : j < i
      · simp [updV, ej, hj, Nat.lt_succ_of_lt hj]
      · simp [updV, ej, hj, show ¬ j < i + 1 by omega]
  have hcell : (T.pushCell (arrV cI M (fun _ => .int 0))).heap[H.size]? = some (arrV cO N (fun j => va_rf (if j < i then some (H.size + 1 + j) else none))) := (mn_pu hlt).trans ht
  have X1 := (X.pushed (arrV cI M (fun _ => .int 0))).stored hcell i (.ref T.heap.size)
  rw [arrV_store, hu, mn_sz] at X1
  have hS1 : va_S A s.heap (T.heap.push (arrV cI M (fun _ => .int 0))) locs := hS.grow (by rw [Array.size_push]; omega) (fun q hq => mn_pu hq)
  refine ⟨(T.pushCell (arrV cI M (fun _ => .int 0))).setCell H.size (arrV cO N (fun j => va_rf (if j < i + 1 then some (H.size + 1 + j) else none))), ⟨⟨locs ++ [⟨H.size, i⟩], ?_, ?_⟩, hvm, ?_, fun q hq => ?_, fun j hj => ?_, ?_⟩, fun f Q E d acts hq => ?_⟩
  · rw [show slots + N + (i + 1) * M = slots + N + i * M + M by rw [hmul]; omega]
    exact X1
  · exact hS1.put1 (by show (Array.setIfInBounds _ _ _).size = _; exact Array.size_setIfInBounds) (fun q hq => mn_ne hq) hA
  · show (Array.setIfInBounds (T.heap.push _) _ _).size = _
    rw [Array.size_setIfInBounds, Array.size_push, hz]
    omega
  · show (Array.setIfInBounds (T.heap.push _) _ _)[q]? = _
    rw [mn_ne (by omega), mn_pu (by omega)]
    exact ho q hq
  · show (Array.setIfInBounds (T.heap.push _) _ _)[H.size + 1 + j]? = _
    rw [mn_ne (by omega)]
    by_cases ej : j = i
    · subst ej
      rw [← hz, Array.getElem?_push_size]
    · rw [mn_pu (by rw [hz]; omega)]
      exact hr j (by omega)
  · show (Array.setIfInBounds (T.heap.push _) _ _)[H.size]? = _
    exact mn_eq (by rw [Array.size_push]; omega)
  · rw [Jvm.Sem.wp_bind']
    refine mn_in hy hyM (show T.vm.classes[cI]? = some kI by rw [hvm]; exact hkI) hkI2 hl hh (show T.heap.size < _ by omega) (show T.slotsUsed + M ≤ _ from r2) fun acts1 => ?_
    rw [Jvm.Sem.wp_bind']
    refine (Jvm.W.writeLoc _ _ _ _).mpr ⟨arrV cO N (fun j => va_rf (if j < i then some (H.size + 1 + j) else none)), hcell, (by intro h0; unfold arrV at h0; cases h0), (by rw [mn_sz]; exact hi), ?_, ?_⟩
    · show State.fitsSlot (((T.setTop f).pushCell (arrV cI M (fun _ => .int 0)))) cO .none i (.ref T.heap.size) = true
      simp [State.fitsSlot, State.slotType?, hvm, hkO, hkO2, fits]
    · rw [arrV_store]
      have h := hq (writeActs ⟨H.size, i⟩ .plain (.ref T.heap.size) acts1)
      rw [← hu] at h
      exact h
theorem mn_loop {A : Nat → Prop} {cO cI : ClassId} {N M cells slots : Nat} {vm : Vm} {H : Heap} {y : Int32} (hK : mnK e R A cO cI N M vm H cells slots y) : ∀ (n i : Nat) (T : State), i + n ≤ N → mnP p l e R s m args below meth c A cO cI N M vm H cells slots i T →
    ∃ T' : State, mnP p l e R s m args below meth c A cO cI N M vm H cells slots (i + n) T' ∧ ∀ (f : JFrame) (body : Nat → PUnit → Sem (ForInStep PUnit)), (∀ j : Nat, body j PUnit.unit = (Jvm.Op.multianewarray.make cI [y] >>= fun r => (Jvm.writeLoc H.size j (.ref r) >>= fun _ => (Pure.pure (ForInStep.yield PUnit.unit) : Sem (ForInStep PUnit))))) →
      ∀ (Q : PUnit → Jvm.Pre) (E : Jvm.CtlPost) (d : Bool) (acts : List Action), (∀ d' acts', Q PUnit.unit d' acts' (T'.setTop f)) → Jvm.Sem.wp (forIn (List.range' i n) PUnit.unit body) Q E e d acts (T.setTop f)
  | 0, i, T, _, h => ⟨T, h, fun f body _ Q E d acts hq => by
    rw [List.range'_zero, List.forIn_nil, Jvm.Sem.wp_pure']
    exact hq _ _⟩
  | n + 1, i, T, hn, h => by
    obtain ⟨T1, h1, w1⟩ := mn_turn hK (by omega) h
    obtain ⟨T2, h2, w2⟩ := mn_loop hK n (i + 1) T1 (by omega) h1
    refine ⟨T2, by rw [show i + (n + 1) = i + 1 + n by omega]; exact h2, fun f body hb Q E d acts hq => ?_⟩
    rw [List.range'_succ, List.forIn_cons, Jvm.Sem.wp_bind', hb i]
    exact w1 f _ E d acts fun acts' => w2 f body hb Q E true acts' hq
theorem mn_all {A : Nat → Prop} {T : State} {locs : List Loc} {cells slots N M idx : Nat} {own : String} {x y : Int32} {rest : List Value} {g : JFrame} (X : Stand p l e R s m args below meth c T locs cells slots) (hS : va_S A s.heap T.heap locs) (hexec : p.tables.exec = Jvm.exec) (hown : s.vm.findClass own = some m.cls) (hcl : (Cond.classLink own idx "[[I").before args s = true) (hov : (Cond.arrayOver (.array .int)).before args s = true) (har : (Cond.arrayClass .int).before args s = true)
    (hg : g.method = m) (hd : decode c.code g.pc = .ok (.multianewarray idx 2, 4)) (hst : g.stack = .int y :: .int x :: rest) (hx : ¬ x < 0) (hy : ¬ y < 0) (hxN : x.toNatClampNeg = N) (hyM : y.toNatClampNeg = M) (hN : N ≤ 1000) (hM : M ≤ 1000) (hA : A T.heap.size) (hc : cells + 1 + N ≤ R.cells) (hs : slots + N + N * M ≤ R.slots) :
    ∃ (vm : Vm) (cO cI : ClassId) (F : State), s.vm.findClass "[[I" = some cO ∧ s.vm.findClass "[I" = some cI ∧ mnP p l e R s m args below meth c A cO cI N M vm T.heap cells slots N F ∧ ∀ t, Steps p.tables e below (F.setTop { g with pc := g.pc + 4, stack := .ref T.heap.size :: rest }) t → Steps p.tables e below (T.setTop g) t := by
  subst hg
  have hpl : e.platform.magicAccessors = ({} : Platform).magicAccessors := by rw [X.admits.platform]
  obtain ⟨cI, cO, kO, f1, -, hkO, hkO2, f2⟩ := ao_spec hov
  obtain ⟨cI', kI, comp, f3, hkI, hkI2⟩ := Cond.arrayClass_spec har
  cases (show s.vm.findClass "[I" = some cI from f1).symm.trans (show s.vm.findClass "[I" = some cI' from f3)
  obtain ⟨cO', f4, hln⟩ := Cond.classLink_spec hown hcl e.platform hpl
  cases (show s.vm.findClass "[[I" = some cO from f2).symm.trans f4
  obtain ⟨hgv, hwarm, -⟩ := State.classEntry (e := e) X.warmed hln
  have hsz : (T.vm.noted g.method.cls idx (.cls cO)).classes.size ≤ T.vm.classes.size := by no_record
  generalize T.vm.noted g.method.cls idx (.cls cO) = vm at hgv hwarm hsz
  obtain ⟨kO1, hkO1, eO⟩ := hwarm.alike.2.2 _ _ hkO
  obtain ⟨kI1, hkI1, eI⟩ := hwarm.alike.2.2 _ _ hkI
  have hkO3 : kO1.kind = .array cI (.array .int) := by rw [eO]; exact hkO2
  have hkI3 : kI1.kind = .array comp .int := by rw [eI]; exact hkI2
  have hal := Launch.admits_arrayLengthLimit X.admits
  have hmh := Launch.admits_maxHeapBytes X.admits
  have hK : mnK e R A cO cI N M vm T.heap cells slots y := ⟨⟨kO1, hkO1, hkO3⟩, ⟨kI1, comp, hkI1, hkI3⟩, hy, hyM, by omega, by omega, hA, hc, hs⟩
  obtain ⟨r1, r2⟩ := X.roomAbove (a := 1) (b := N) (by omega) (by omega)
  have e0 : arrV cO N (fun _ => .null) = arrV cO N (fun j => va_rf (if j < 0 then some (T.heap.size + 1 + j) else none)) := congrArg (arrV cO N) (funext fun j => by simp [va_rf])
  have X1 := (X.noted hwarm).pushed (arrV cO N (fun _ => .null))
  rw [mn_sz] at X1
  have h0 : mnP p l e R s g.method args below meth c A cO cI N M vm T.heap cells slots 0 ((T.setVm vm).pushCell (arrV cO N (fun _ => .null))) := by
    refine ⟨⟨locs, by rw [Nat.zero_mul]; exact X1, hS.grow (by show _ ≤ (T.heap.push _).size; rw [Array.size_push]; omega) (fun q hq => mn_pu hq)⟩, rfl, by show (T.heap.push _).size = _; rw [Array.size_push], fun q hq => mn_pu hq, fun j hj => absurd hj (Nat.not_lt_zero j), ?_⟩
    show (T.heap.push _)[T.heap.size]? = _
    rw [Array.getElem?_push_size, e0]
  obtain ⟨F, hF, w⟩ := mn_loop hK N 0 _ (by omega) h0
  rw [Nat.zero_add] at hF
  refine ⟨vm, cO, cI, F, f4, f1, hF, fun t hrest => ?_⟩
  refine Steps.instr (c := c) X.here ?_
  rw [hd, hexec]
  show Jvm.Sem.wp (Jvm.Op.multianewarray.sem idx 2) _ _ e false [] (T.setTop g)
  unfold Jvm.Op.multianewarray.sem
  rw [Jvm.Sem.wp_bind']
  refine (Jvm.W.resolveClassAt_links (State.method?_setTop g X.here.top) hgv hsz).mpr ?_
  rw [Jvm.Sem.wp_bind']
  refine (Jvm.Op.popN_top (s := T.setVm vm) (f := g) (args := [.int x, .int y]) (rest := rest) X.here.top hst).mpr ?_
  simp only [List.mapM_cons, List.mapM_nil, Jvm.Sem.wp_bind', Jvm.Sem.wp_pure']
  rw [Jvm.Op.multianewarray.make]
  have hfind : [y].find? (fun z => decide (z < 0)) = none := by simp [hy]
  simp only [Jvm.Sem.wp_bind', Jvm.W.ite, hx, if_false, Jvm.Sem.wp_pure', Jvm.W.theClass, State.vm_setTop, State.vm_setVm, hkO1, Option.some.injEq, exists_eq_left', hkO3, hfind, ite_self]
  refine Jvm.W.newArray_of (s := (T.setVm vm).setTop { g with stack := rest }) hkO1 hkO3 (by rw [hxN]; omega) (by rw [hxN]; show ¬ N * 4 > _; omega) (show T.heap.size < _ by omega) (show T.slotsUsed + _ ≤ _ by rw [hxN]; exact r2) rfl fun acts1 => ?_
  rw [Std.Legacy.Range.forIn_eq_forIn_range', hxN, arrV_new]
  simp only [Std.Legacy.Range.size, Nat.sub_zero, Nat.add_sub_cancel, Nat.div_one]
  rw [Jvm.Sem.wp_bind']
  refine w { g with stack := rest } _ (fun j => rfl) _ _ _ _ (fun d' acts' => ?_)
  · simp only [Jvm.Sem.wp_bind', Jvm.Sem.wp_pure', Jvm.W.mark, Jvm.W.pushRef]
    refine ⟨{ g with stack := rest }, State.topJava?_setTop' _ ?_, fun acts => ?_⟩
    · obtain ⟨⟨locs', X', -⟩, -⟩ := hF
      exact X'.here.top
    · rw [State.setTop_setTop, afterInstr_ok]
      exact hrest
end Mna
section Rows
variable {C : CT} {l : Launch} {K : KT} {R : RT} {Po : PoT} {pc pc' : Nat} {L L' : LT} {st : List Value} {S S' : ShT} {I I' : DI} {J J' : DJ} {u : Nat × Nat}
theorem v_mna {N M idx : Nat} {x y : Int32} (hd : decode K.1 pc = .ok (.multianewarray idx 2, 4)) (hw1 : Wd (.classLink K.2.1 idx "[[I")) (hw2 : Cond.arrayOver (.array .int) ∈ lw_tbl) (hw3 : Wd (.arrayClass .int)) (hx : x = nI N) (hy : y = nI M) (hN : N ≤ 1000) (hM1 : M ≤ 1000) (hu : u.1 + (1 + N) ≤ R.2.1 ∧ u.2 + (N + N * M) ≤ R.2.2) (hp : pc + 4 = pc')
    (kk : V C l K R Po pc' L (.ref S.1 :: st) (ad2 S N M) (zf I S.1 0) (zf J S.1 0) (u.1 + 1 + N, u.2 + N + N * M)) : V C l K R Po pc L (.int y :: .int x :: st) S I J u := by
  intro p e s m args below meth c hI H ls locs hM hL hS h1 h2 T hT X
  subst hT
  subst hp
  obtain ⟨hC, hx0, hb, hr, hml, hown, hlk, hh, hG, ⟨S0, I0, J0, hM0⟩, hnm⟩ := id hI
  have cx : x.toNatClampNeg = N := by rw [hx]; exact nI_clamp (by omega)
  have cy : y.toNatClampNeg = M := by rw [hy]; exact nI_clamp (by omega)
  have hRA : s.vm.findClass "[I" = some (cA C 32) := (hG.arr hC (t := 32) (by omega)).2
  have hRA2 : s.vm.findClass "[[I" = some (cA C 37) := (hG.arr hC (t := 37) (by omega)).2
  obtain ⟨vm₁, cA1, comp, F, fA1, fC, ⟨⟨locs2, X', hS2⟩, -, f1, hold, hrow, f2⟩, step⟩ := mn_all (g := F0 m pc ls ((.int y :: .int x :: st).map (cv C))) (x := x) (y := y) (rest := st.map (cv C)) (A := AX C) (N := N) (M := M) X hS hx0 hown (hw1.at hC hG.1 args) (ao_moved hG.1.alike (hC.2.1 _ hw2)) (hw3.at hC hG.1 args) rfl (by rw [hb]; exact hd) rfl (by rw [hx]; exact nI_pos (by omega)) (by rw [hy]; exact nI_pos (by omega)) cx cy hN hM1 hM.z (by show u.1 + 1 + N ≤ R.2.1; omega) (by show u.2 + N + N * M ≤ R.2.2; omega)
  cases hRA.symm.trans fC
  cases hRA2.symm.trans fA1
  have hMR : MR C (ad2 S N M) (zf I S.1 0) (zf J S.1 0) F.heap := by
    refine hM.grow (by rw [f1, hM.1]; show c0 C + S.1 + 1 + N = c0 C + (S.1 + 1 + N); omega) hold (fun k hk => ⟨?_, ?_, zf_lt hk, zf_lt hk⟩) (fun k g1 g2 => ?_)
    · show (if k = S.1 then _ else if S.1 < k then _ else _) = _
      rw [if_neg (by omega), if_neg (by omega)]
    · funext j
      show (if k = S.1 then _ else zf S.2.2 S.1 none k j) = _
      rw [if_neg (by omega), zf_lt hk]
    · have g2 : k < S.1 + 1 + N := g2
      by_cases e0 : k = S.1
      · subst e0
        rw [cel_a (t := 37) (n := N) (by show (if S.1 = S.1 then _ else _ : Nat × Nat) = _; rw [if_pos rfl]) (by omega)]
        show F.heap[c0 C + S.1]? = some (vp_cell _ _)
        rw [← hM.1, f2, vcq (by omega)]
        congr 2
        funext j
        show _ = va_rf ((if S.1 = S.1 then (if j < N then some (S.1 + 1 + j) else none) else _ : Option Nat).map _)
        rw [if_pos rfl]
        by_cases hj : j < N
        · rw [if_pos hj, if_pos hj, hM.1]
          exact congrArg Value.ref (show c0 C + S.1 + 1 + j = c0 C + (S.1 + 1 + j) by omega)
        · rw [if_neg hj, if_neg hj]
          rfl
      · rw [cel_a (t := 32) (n := M) (by show (if k = S.1 then _ else if S.1 < k then _ else _ : Nat × Nat) = _; rw [if_neg e0, if_pos (by omega)]) (by omega)]
        show F.heap[c0 C + k]? = some (vp_cell _ _)
        have := hrow (k - S.1 - 1) (by omega)
        rw [show T.heap.size + 1 + (k - S.1 - 1) = c0 C + k by rw [hM.1]; omega] at this
        rw [this, vc32]
        congr 2
        funext j
        rw [zf_ge g1]
  obtain ⟨t, a1, b1⟩ := kk p e s m args below meth c hI F.heap ls locs2 hMR hL hS2 (by have := hu.1; show u.1 + 1 + N ≤ _; omega) (by have := hu.2; show u.2 + N + N * M ≤ _; omega) F rfl X'
  refine ⟨t, step t ?_, b1⟩
  have hsz : T.heap.size = c0 C + S.1 := hM.1
  rw [hsz]
  exact a1
end Rows

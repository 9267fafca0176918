/-! ===== A THROW IS CAUGHT ===== -/
section Find
variable {e : Env} {s : State} {f : JFrame} {a : Addr}
theorem fh_yes {Q : Handler → Pre} {E : CtlPost} {d : Bool} {acts : List Action} {x : ExceptionTableEntry} {t : List ExceptionTableEntry} {c : ClassId} {cell : Cell} (hx : covers x f.pc = true) (h0 : x.catchType ≠ 0)
    (hl : s.vm.ClassLinks e.platform f.method.cls x.catchType c) (hcell : s.heap[a]? = some cell) (hobj : ∀ k, cell.vm ≠ .statics k) (hk : ∃ k, s.vm.classes[cell.cls]? = some k) (hc : ∃ k, s.vm.classes[c]? = some k) (hfit : s.vm.assignable cell.cls c = true) :
    wp (findHandler.go f a (x :: t)) Q E e d acts s ↔ Q (.found x.handlerPc) d acts (s.setVm (s.vm.noted f.method.cls x.catchType (.cls c))) := by
  simp only [covers] at hx
  obtain ⟨ha, ht⟩ := (resolveClass_links e.toSetting hl).op (op := VmOp.resolveClass f.method.cls x.catchType) rfl
  have hal : s.vm.Alike (s.vm.noted f.method.cls x.catchType (.cls c)) := (Vm.Alike.refl s.vm).noted _ _ _
  obtain ⟨k1, hk1⟩ := hk
  obtain ⟨k2, hk2⟩ := hc
  obtain ⟨k1', hk1', -⟩ := hal.2.2 _ _ hk1
  obtain ⟨k2', hk2', -⟩ := hal.2.2 _ _ hk2
  have hfit' : (s.vm.noted f.method.cls x.catchType (.cls c)).assignable cell.cls c = true := by rw [hal.assignable]; exact hfit
  simp [findHandler.go, hx, h0, ha, ht, hcell, hobj, hk1', hk2', hfit', VmOp.dirties, VmOp.acts]
theorem fh_no {Q : Handler → Pre} {E : CtlPost} {d : Bool} {acts : List Action} {x : ExceptionTableEntry} {t : List ExceptionTableEntry} {c : ClassId} {cell : Cell} (hx : covers x f.pc = true) (h0 : x.catchType ≠ 0)
    (hl : s.vm.ClassLinks e.platform f.method.cls x.catchType c) (hcell : s.heap[a]? = some cell) (hobj : ∀ k, cell.vm ≠ .statics k) (hk : ∃ k, s.vm.classes[cell.cls]? = some k) (hc : ∃ k, s.vm.classes[c]? = some k) (hno : s.vm.assignable cell.cls c = false) :
    wp (findHandler.go f a (x :: t)) Q E e d acts s ↔ wp (findHandler.go f a t) Q E e d acts (s.setVm (s.vm.noted f.method.cls x.catchType (.cls c))) := by
  simp only [covers] at hx
  obtain ⟨ha, ht⟩ := (resolveClass_links e.toSetting hl).op (op := VmOp.resolveClass f.method.cls x.catchType) rfl
  have hal : s.vm.Alike (s.vm.noted f.method.cls x.catchType (.cls c)) := (Vm.Alike.refl s.vm).noted _ _ _
  obtain ⟨k1, hk1⟩ := hk
  obtain ⟨k2, hk2⟩ := hc
  obtain ⟨k1', hk1', -⟩ := hal.2.2 _ _ hk1
  obtain ⟨k2', hk2', -⟩ := hal.2.2 _ _ hk2
  have hno' : (s.vm.noted f.method.cls x.catchType (.cls c)).assignable cell.cls c = false := by rw [hal.assignable]; exact hno
  simp [findHandler.go, hx, h0, ha, ht, hcell, hobj, hk1', hk2', hno', VmOp.dirties, VmOp.acts]
end Find
/-- a row of the table that the search passes, by its words at the run's start; one that catches -/
def rwNo (C : CT) (l : Launch) (own : String) (ci : Nat) (x : ExceptionTableEntry) (pc : Nat) : Prop := covers x pc = true ∧ x.catchType ≠ 0 ∧ ∃ cj, (cj = 9 ∨ cj = 10 ∨ cj = 11) ∧ ci ≠ cj ∧ Wd (.classLink own x.catchType (kN cj))
def rwYes (C : CT) (l : Launch) (own : String) (ci : Nat) (x : ExceptionTableEntry) (pc : Nat) : Prop := covers x pc = true ∧ x.catchType ≠ 0 ∧ Wd (.classLink own x.catchType (kN ci))
theorem link_at {C : CT} {l : Launch} (hC : OKC C l) {U : State} (hG : (cS C).WarmedH U.vm) {own : String} {d : ClassId} (hown : U.vm.findClass own = some d) {idx cj : Nat} (hw : Wd (.classLink own idx (kN cj))) (hcj : cj < 12) {pl : Platform} (hpl : pl.magicAccessors = ({} : Platform).magicAccessors) :
    U.vm.ClassLinks pl d idx ((cD C).1 cj) ∧ ∃ k, U.vm.classes[(cD C).1 cj]? = some k := by
  obtain ⟨c', hc', hl⟩ := Cond.classLink_spec hown (hw.at hC hG #[]) pl hpl
  have hcl := ((va_K.moved hG.alike hC.2.2.1).1 cj _ (vw_at hcj)).2
  cases hcl.1.symm.trans hc'
  obtain ⟨k, hk, -⟩ := hcl.2
  exact ⟨hl, k, hk⟩
theorem find_to {C : CT} {l : Launch} (hC : OKC C l) {e : Env} (hpl : e.platform.magicAccessors = ({} : Platform).magicAccessors) {own : String} {ci : Nat} (hci : ci = 9 ∨ ci = 10 ∨ ci = 11) {f : JFrame} {a : Addr} (x : ExceptionTableEntry) (rest : List ExceptionTableEntry) (hx : rwYes C l own ci x f.pc) :
    ∀ (pre : List ExceptionTableEntry) (U : State), (cS C).WarmedH U.vm → U.vm.findClass own = some f.method.cls → (∃ cell, U.heap[a]? = some cell ∧ cell.cls = (cD C).1 ci ∧ cell.vm = .none) → (∀ y ∈ pre, rwNo C l own ci y f.pc) →
      ∃ vm', U.WarmedH vm' ∧ ∀ (Q : Handler → Pre) (E : CtlPost) (d : Bool) (acts : List Action), wp (findHandler.go f a (pre ++ x :: rest)) Q E e d acts U ↔ Q (.found x.handlerPc) d acts (U.setVm vm') := by
  intro pre
  have hc : ci < 12 := by omega
  induction pre with
  | nil =>
    intro U hW hown hcell _
    obtain ⟨cell, g1, g2, g3⟩ := hcell
    obtain ⟨x1, x2, x3⟩ := hx
    obtain ⟨hl, k, hk⟩ := link_at hC hW hown x3 hc hpl
    have hat : ClassAt U (kN ci) ((cD C).1 ci) := ((va_K.moved hW.alike hC.2.2.1).1 ci _ (vw_at hc)).2
    refine ⟨U.vm.noted f.method.cls x.catchType (.cls ((cD C).1 ci)), ?_, fun Q E d acts => ?_⟩
    · obtain ⟨dk, _, _, kt, hd, _, _, _, _, hkt, _, hopen⟩ := hl.here
      exact (State.WarmedH.refl U).noted hd hopen (State.rightAt_cls hl)
    · exact fh_yes x1 x2 hl g1 (fun k h => by rw [g3] at h; cases h) (by rw [g2]; exact ⟨k, hk⟩) ⟨k, hk⟩ (by rw [g2]; exact va_assign hat)
  | cons y ys ih =>
    intro U hW hown hcell hp
    obtain ⟨cell, g1, g2, g3⟩ := id hcell
    obtain ⟨y1, y2, cj, hcj, hne, y3⟩ := hp y List.mem_cons_self
    obtain ⟨hl, k, hk⟩ := link_at hC hW hown y3 (by omega) hpl
    have hcl := ((va_K.moved hW.alike hC.2.2.1).1 ci _ (vw_at hc)).2
    obtain ⟨k0, hk0, -⟩ := hcl.2
    have hno : U.vm.assignable ((cD C).1 ci) ((cD C).1 cj) = false := by
      have h9 := hC.2.2.2.2.2.2.2.2 ci cj hci hcj hne
      have hv := Cond.holds_not_iff.mp h9
      have f1 := (hC.2.2.1.1 ci _ (vw_at hc)).2.1
      have f2 := (hC.2.2.1.1 cj _ (vw_at (show cj < 12 by omega))).2.1
      simp only [Cond.value, f1, f2] at hv
      rw [hW.alike.assignable]
      exact Option.some.inj hv
    have hW2 : U.WarmedH (U.vm.noted f.method.cls y.catchType (.cls ((cD C).1 cj))) := by
      obtain ⟨dk, _, _, kt, hd, _, _, _, _, hkt, _, hopen⟩ := hl.here
      exact (State.WarmedH.refl U).noted hd hopen (State.rightAt_cls hl)
    obtain ⟨vm', w1, w2⟩ := ih (U.setVm (U.vm.noted f.method.cls y.catchType (.cls ((cD C).1 cj)))) (State.WarmedH.trans hW hW2) (by rw [show (U.setVm (U.vm.noted f.method.cls y.catchType (.cls ((cD C).1 cj)))).vm = U.vm.noted f.method.cls y.catchType (.cls ((cD C).1 cj)) from rfl, hW2.alike.findClass]; exact hown) hcell (fun z hz => hp z (List.mem_cons_of_mem _ hz))
    refine ⟨vm', State.WarmedH.trans hW2 w1, fun Q E d acts => ?_⟩
    rw [List.cons_append, fh_no y1 y2 hl g1 (fun k h => by rw [g3] at h; cases h) (by rw [g2]; exact ⟨k0, hk0⟩) ⟨k, hk⟩ (by rw [g2]; exact hno)]
    exact w2 Q E d acts
theorem caught_to {tb : Tables} {e : Env} {s target : State} {g : JFrame} {c : Code} {below : List Frame} {a : Addr} (h : At s g.method c below) {pc : Nat} {vm' : Vm}
    (hfind : ∀ (Q : Handler → Pre) (E : CtlPost) (d : Bool) (acts : List Action), wp (findHandler g a) Q E e d acts ((s.setTop g).pushFrame (.throwing a)) ↔ Q (.found pc) d acts (((s.setTop g).pushFrame (.throwing a)).setVm vm'))
    (hrest : Steps tb e below ((s.setVm vm').setTop { g with pc := pc, stack := [.ref a] }) target) : Steps tb e below ((s.setTop g).pushFrame (.throwing a)) target := by
  obtain ⟨hgo, hw⟩ := h.throwing a
  refine Steps.head hgo hw ?_
  have hst : (stepThrowing e ((s.setTop g).pushFrame (.throwing a)) a (.java g :: s.frames.tail)).Is ((((s.setTop g).pushFrame (.throwing a)).setVm vm').setFrames (.java { g with pc := pc, stack := [.ref a] } :: s.frames.tail)) [] := by
    simp only [stepThrowing, searchFrame, vmDo]
    generalize hr : Sem.go _ e false [] ((s.setTop g).pushFrame (.throwing a)) = res
    obtain ⟨as, rfl, ha⟩ := Sem.eq_ok_of hr (a := Handler.found pc) (s' := ((s.setTop g).pushFrame (.throwing a)).setVm vm') (acts' := []) (by simp [hfind _ _ _ _])
    exact ⟨rfl, ha⟩
  obtain ⟨g₀, hg⟩ := Option.isSome_iff_exists.mp h.top
  obtain ⟨r, hr⟩ := State.topJava?_eq_some.mp hg
  rw [hr, List.tail_cons] at hst
  rw [stepThread_throwing (frames_entered h.top _), hr, List.tail_cons, hst.1]
  have hr' : (s.setVm vm').frames = .java g₀ :: r := hr
  rw [State.setTop_of_frames _ hr'] at hrest
  have e1 : ∀ (F G : List Frame), ((s.setFrames F).setVm vm').setFrames G = (s.setVm vm').setFrames G := fun F G => by
    rw [show (s.setFrames F).setVm vm' = (s.setVm vm').setFrames F from rfl, State.setFrames_setFrames]
  rw [State.pushFrame, State.setTop_of_frames _ hr, State.setFrames_setFrames, e1]
  exact hrest

/-! ===== THE WORDS OF A THROW, at every state of the run ===== -/
theorem ls_moved {C : CT} {o n d : String} {a a' : Array Value} (h : (Cond.laysStatic o n d).before a (cS C) = true) {U : State} (hG : GG C U) : (Cond.laysStatic o n d).before a' U = true := by
  obtain ⟨c, k, i, f, ad, cell, h1, h2, h3, h4, h5, h6, h7, h8, h9⟩ := Cond.laysStatic_spec h
  obtain ⟨k', g1, g2⟩ := State.fieldFound?_setVm hG.1.alike h2
  have e1 : U.vm.findClass o = some c := by rw [hG.1.alike.findClass]; exact h1
  have e2 : U.fieldFound? o n d = some (c, k', i, f) := g1
  have hlt : ad < c0 C := (Array.getElem?_eq_some_iff.mp h5).1
  have e3 : U.heap[ad]? = some cell := by rw [hG.2 ad hlt]; exact h5
  have e4 : k'.statics = some ad := by rw [g2]; exact h4
  have e5 : k'.staticTypes[f.slot]? = some f.type := by rw [g2]; exact h9
  simp [Cond.before, Cond.holds, Cond.value, e1, e2, e3, e4, e5, h3, h6, h7, h8]
theorem ir_moved {C : CT} {o n d : String} {a a' : Array Value} (h : (Cond.laysStatic o n d).before a (cS C) = true) (hr : (Cond.isRef (.static o n d)).before a (cS C) = true) {U : State} (hG : GG C U) : (Cond.isRef (.static o n d)).before a' U = true := by
  obtain ⟨c, k, i, f, ad, cell, h1, h2, h3, h4, h5, h6, h7, h8, h9⟩ := Cond.laysStatic_spec h
  obtain ⟨k', g1, g2⟩ := State.fieldFound?_setVm hG.1.alike h2
  have e2 : U.fieldFound? o n d = some (c, k', i, f) := g1
  have hlt : ad < c0 C := (Array.getElem?_eq_some_iff.mp h5).1
  have e3 : U.heap[ad]? = some cell := by rw [hG.2 ad hlt]; exact h5
  have e4 : k'.statics = some ad := by rw [g2]; exact h4
  have ev : (Term.static o n d).eval a (cS C) none [] (cS C) = cell.slots[f.slot]? := by
    simp [Term.eval, State.fieldNamed?, h2, h3, h4, h5, h6]
  have ev' : (Term.static o n d).eval a' U none [] U = cell.slots[f.slot]? := by
    simp [Term.eval, State.fieldNamed?, e2, h3, e3, e4, h6]
  simp only [Cond.before, Cond.holds, Cond.value, ev, ev'] at hr ⊢
  exact hr
/-- a word that holds at every state of the run, by its form -/
def okX (w : Cond) : Bool := match w with
  | .castable _ _ => decide (w ∈ lw_tbl)
  | .declares _ => decide (w ∈ lw_tbl)
  | .laysStatic _ _ _ => decide (w ∈ lw_tbl)
  | .isRef (.static o n d) => (decide (o = "java/lang/Throwable" ∧ n = "UNASSIGNED_STACK" ∧ d = "[Ljava/lang/StackTraceElement;") || decide (o = "java/lang/Throwable" ∧ n = "SUPPRESSED_SENTINEL" ∧ d = "Ljava/util/List;"))
  | w => goodWord w && decide (w ∈ lw_tbl)
theorem ls1 : Cond.laysStatic "java/lang/Throwable" "UNASSIGNED_STACK" "[Ljava/lang/StackTraceElement;" ∈ lw_tbl := by decide +kernel
theorem ls2 : Cond.laysStatic "java/lang/Throwable" "SUPPRESSED_SENTINEL" "Ljava/util/List;" ∈ lw_tbl := by decide +kernel
theorem okX_at {w : Cond} (h : okX w = true) {C : CT} {l : Launch} (hC : OKC C l) {U : State} (hG : GG C U) (a : Array Value) : w.before a U = true := by
  unfold okX at h
  split at h
  · exact va_Nw.use rfl (va_Nw.warmC hG.1 (va_Nw.of rfl (hC.2.1 _ (of_decide_eq_true h))))
  · exact va_Nw.use rfl (va_Nw.warmD hG.1 (va_Nw.of rfl (hC.2.1 _ (of_decide_eq_true h))))
  · exact ls_moved (hC.2.1 _ (of_decide_eq_true h)) hG
  · rename_i o n d
    rw [Bool.or_eq_true] at h
    rcases h with h | h
    · obtain ⟨rfl, rfl, rfl⟩ := of_decide_eq_true h
      exact ir_moved (hC.2.1 _ ls1) hC.2.2.2.2.2.2.1 hG
    · obtain ⟨rfl, rfl, rfl⟩ := of_decide_eq_true h
      exact ir_moved (hC.2.1 _ ls2) hC.2.2.2.2.2.2.2.1 hG
  · rw [Bool.and_eq_true] at h
    exact Wd.at ⟨of_decide_eq_true h.2, h.1⟩ hC hG.1 a
def exN : List String := ["java/lang/RuntimeException", "java/lang/Exception"]
/-- all words of a throw but the link of its own constructor -/
def exW (X : String) : List Cond := (Bundle.throwableAtoms ++ Bundle.chain0Atoms X exN) ++ (Bundle.ownAtoms0 "" 0 X exN).drop 40
theorem exW9 : (exW (kN 9)).all okX = true := by decide +kernel
theorem exW10 : (exW (kN 10)).all okX = true := by decide +kernel
theorem exW11 : (exW (kN 11)).all okX = true := by decide +kernel

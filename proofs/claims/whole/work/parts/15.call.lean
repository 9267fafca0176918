/-! ===== CALL ROWS ===== -/
/-- a throw under way: the frame g, the thrown object k over it -/
def VT (C : CT) (l : Launch) (K : KT) (R : RT) (Po : PoT) (pc : Nat) (L : LT) (st : List Value) (S : ShT) (I : DI) (J : DJ) (u : Nat × Nat) (k : Nat) : Prop :=
  ∀ (p : Program) (e : Env) (s : State) (m : MethodId) (args : Array Value) (below : List Frame) (meth : Method) (c : Code), Iv C l K p s m meth c →
    ∀ (T : State) (ls : Array Slot) (locs : List Loc), MR C S I J T.heap → lv_has ls K.2.2.2.2.1 (lC C L) → va_S (AX C) s.heap T.heap locs → u.1 ≤ R.2.1 → u.2 ≤ R.2.2 → Stand p l e (RM R) s m args below meth c T locs u.1 u.2 →
    ∃ t, Steps p.tables e below ((T.setTop (F0 m pc ls (st.map (cv C)))).pushFrame (.throwing (c0 C + k))) t ∧ ZX C R Po below s t
/-- a call site: the card, the links; n: how many parameters -/
def CsV (own : String) (idx : Nat) (K : KT) (y : MethodName) (n : Nat) : Prop := Cd K y ∧ Wd (.methodLink own idx y) ∧ Wd (.instanceMethod y) ∧ Wd (.selects y.cls y y) ∧ (parseMethodDescriptor y.desc).map (fun d => d.parameters.length) = some n
def CsS (own : String) (idx : Nat) (K : KT) (y : MethodName) (n : Nat) : Prop := Cd K y ∧ Wd (.methodLink own idx y) ∧ Wd (.static y) ∧ (parseMethodDescriptor y.desc).map (fun d => d.parameters.length) = some n
def CsN (own : String) (idx : Nat) (K : KT) (y : MethodName) (n : Nat) : Prop := Cd K y ∧ (∃ host, Cond.methodLinkNest own idx y host ∈ lw_tbl) ∧ Wd (.static y) ∧ (parseMethodDescriptor y.desc).map (fun d => d.parameters.length) = some n
def CsI (own : String) (idx : Nat) (K : KT) (y : MethodName) (n : Nat) : Prop := Cd K y ∧ (Wd (.methodLink own idx y) ∨ ∃ host, Cond.methodLinkNest own idx y host ∈ lw_tbl) ∧ Wd (.instanceMethod y) ∧ K.2.2.2.1 = [] ∧ K.2.2.2.2.2 = none ∧ y.name = "<init>" ∧ (parseMethodDescriptor y.desc).map (fun d => d.parameters.length) = some n
theorem nest_at {C : CT} {l : Launch} (hC : OKC C l) {own : String} {idx : Nat} {y : MethodName} {host : String} (h : Cond.methodLinkNest own idx y host ∈ lw_tbl) {U : State} (hW : (cS C).WarmedH U.vm) (a : Array Value) : (Cond.methodLinkNest own idx y host).before a U = true :=
  va_Nw.use rfl (va_Nw.warmM hW (va_Nw.of rfl (hC.2.1 _ h)))
theorem par_len {y : MethodName} {n : Nat} {as : List Value} (h : (parseMethodDescriptor y.desc).map (fun d => d.parameters.length) = some n) (ha : as.length = n) : ∀ sig, parseMethodDescriptor y.desc = some sig → as.length = sig.parameters.length := by
  intro sig hs
  rw [hs] at h
  exact ha.trans (Option.some.inj h).symm
section Rows
variable {C : CT} {l : Launch} {K K' : KT} {R R' : RT} {Po Po' : PoT} {pc pc' : Nat} {L L' : LT} {st stk : List Value} {S S' : ShT} {I I' : DI} {J J' : DJ} {u : Nat × Nat} {y : MethodName} {as : List Value}
/-- behind the callee's run -/
theorem v_back {p : Program} {e : Env} {s : State} {m : MethodId} {args : Array Value} {below : List Frame} {meth : Method} {c : Code} {T : State} {locs : List Loc} {ls : Array Slot} (hI : Iv C l K p s m meth c) (hL : lv_has ls K.2.2.2.2.1 (lC C L)) (hS : va_S (AX C) s.heap T.heap locs) (hK' : Cd K' y) (hSp : Sp C l K' y R' as S I J Po') (hM : MR C S I J T.heap)
    {vm₁ : Vm} (X₁ : Stand p l e (RM R) s m args below meth c (T.setVm vm₁) locs u.1 u.2) {mk : MethodId} (hn : (T.setVm vm₁).methodNamed? y = some mk) {ig : Instr} (hdg : decode K.1 pc = .ok (ig, 3)) (hw : (st.map fun v => v.category).sum ≤ 8) (hfr : R'.1 + 1 ≤ R.1) (hu : u.1 + R'.2.1 ≤ R.2.1 ∧ u.2 + R'.2.2 ≤ R.2.2) (hp : pc + 3 = pc')
    (kk : ∀ (v : Option Value) (S' : ShT) (I' : DI) (J' : DJ), Po' (.inl v) S' I' J' → V C l K R Po pc' L (v.toList ++ st) S' I' J' (u.1 + R'.2.1, u.2 + R'.2.2))
    (kt : ∀ (ci k : Nat) (S' : ShT) (I' : DI) (J' : DJ), Po' (.inr ci) S' I' J' → S'.1 = k + 1 → (S'.2.1 k).1 = ci → VT C l K R Po pc L st S' I' J' (u.1 + R'.2.1, u.2 + R'.2.2) k)
    (hstep : ∀ target, Steps p.tables e below (doInvoke e ((T.setVm vm₁).setTop (F0 m pc ls (st.map (cv C)))) [] mk (as.map (cv C)).toArray).1 target → Steps p.tables e below (T.setTop (F0 m pc ls (stk.map (cv C)))) target) :
    ∃ t, Steps p.tables e below (T.setTop (F0 m pc ls (stk.map (cv C)))) t ∧ ZX C R Po below s t := by
  obtain ⟨hC, hx, hb, hr, hml, hown, hlk, hh, hG, ⟨S0, I0, J0, hM0⟩, hnm⟩ := id hI
  subst hp
  have hG1 : GG C (T.setVm vm₁) := hG.on hS hM0.z rfl X₁.warmed
  obtain ⟨r, S1, I1, J1, T', Lc, q1, q2, q3, X', q5, q6⟩ := Sp.run X₁ hC hK' hSp (show MR C S I J (T.setVm vm₁).heap from hM) hG1 hn (g := F0 m pc ls (st.map (cv C))) rfl (by rw [hml]; exact hL.1) (by rw [hb]; exact hdg) (lv_room (by
    have : ((st.map (cv C)).map fun v => v.category) = st.map fun v => v.category := by
      rw [List.map_map]
      congr 1
      funext v
      exact cv_cat C v
    show ((st.map (cv C)).map fun v => v.category).sum ≤ 8
    rw [this]
    exact hw)) hfr hu.1 hu.2
  have hS' : va_S (AX C) s.heap T'.heap (locs ++ Lc) := ⟨X'.same.2.1, fun q _ h2 => by rw [q3.2 q (Nat.not_le.mp h2), hG.2 q (Nat.not_le.mp h2)], fun z hz => by
    rcases List.mem_append.mp hz with h | h
    · exact hS.2.2 z h
    · exact q5 z h⟩
  cases r with
  | inl v =>
    have w := kk v S1 I1 J1 q1 p e s m args below meth c hI T'.heap ls (locs ++ Lc) q2 hL hS' hu.1 hu.2 T' rfl X'
    obtain ⟨t, a1, b1⟩ := w
    refine ⟨t, hstep _ (q6.trans ?_), b1⟩
    have e9 : (v.toList ++ st).map (cv C) = (v.map (cv C)).toList ++ st.map (cv C) := by cases v <;> rfl
    rw [e9] at a1
    exact a1
  | inr ci =>
    obtain ⟨k, g1, g2, g3⟩ := q6
    obtain ⟨t, a1, b1⟩ := kt ci k S1 I1 J1 q1 g1 g2 p e s m args below meth c hI T' ls (locs ++ Lc) q2 hL hS' hu.1 hu.2 X'
    exact ⟨t, hstep _ (g3.trans a1), b1⟩
theorem v_callV {b ci idx n : Nat} (hd : decode K.1 pc = .ok (.invokevirtual idx, 3)) (hk : CsV K.2.1 idx K' y n) (hSp : Sp C l K' y R' (.ref b :: as) S I J Po') (hb0 : isO S b ci) (hc : ci < 12) (hcy : kN ci = y.cls) (hn : as.length = n) (hst : as.reverse ++ .ref b :: st = stk) (hw : (st.map fun v => v.category).sum ≤ 8) (hfr : R'.1 + 1 ≤ R.1) (hu : u.1 + R'.2.1 ≤ R.2.1 ∧ u.2 + R'.2.2 ≤ R.2.2) (hp : pc + 3 = pc')
    (kk : ∀ (v : Option Value) (S' : ShT) (I' : DI) (J' : DJ), Po' (.inl v) S' I' J' → V C l K R Po pc' L (v.toList ++ st) S' I' J' (u.1 + R'.2.1, u.2 + R'.2.2))
    (kt : ∀ (ci k : Nat) (S' : ShT) (I' : DI) (J' : DJ), Po' (.inr ci) S' I' J' → S'.1 = k + 1 → (S'.2.1 k).1 = ci → VT C l K R Po pc L st S' I' J' (u.1 + R'.2.1, u.2 + R'.2.2) k) : V C l K R Po pc L stk S I J u := by
  intro p e s m args below meth c hI H ls locs hM hL hS h1 h2 T hT X
  subst hT
  obtain ⟨hC, hx, hb, hr, hml, hown, hlk, hh, hG, ⟨S0, I0, J0, hM0⟩, hnm⟩ := id hI
  obtain ⟨k1, k2, k3, k4, k5⟩ := hk
  obtain ⟨-, -, -, hy, w5, -, -⟩ := id k1
  obtain ⟨mk, methM, hnamed, hmethM, hstM, habM⟩ := Cond.instanceMethod_spec (k3.at hC hG.1 args)
  obtain ⟨methM', cM, hmethM', -, -, -, -, -, -, hsigM⟩ := cwd_spec hnamed (w5.at hC hG.1 args)
  cases hmethM.symm.trans hmethM'
  have hPv := hM.2 b hb0.1
  rw [cel_o hb0.2 hc] at hPv
  obtain ⟨r', hr', cellV, g1, g2, g3, -⟩ := hPv
  have hcls : s.vm.findClass y.cls = some cellV.cls := by rw [← hcy, g2]; exact ((hG.K hC).1 ci _ (vw_at hc)).2.1
  obtain ⟨c2, r2, m2, q1, q2, q3, q4, kP, hkP, hkPi⟩ := Cond.selects_spec (k4.at hC hG.1 args)
  cases hcls.symm.trans q1
  cases (State.methodFound?_of_named hnamed hy).symm.trans q2
  cases hnamed.symm.trans q3
  have hselP : selectMethod e.platform s.vm cellV.cls mk = .method mk := by rw [Launch.admits_selectMethod X.admits]; exact q4
  obtain ⟨vm₁, X₁, hstep₁⟩ := X.invokevirtual hx hown (k2.at hC hG.1 args) hnamed hmethM hstM hkP hkPi hy (a := c0 C + b) (cell := cellV) g1
    (fun z h => by rw [g3] at h; cases h) hselP hmethM habM hkP hkPi (g := F0 m pc ls (stk.map (cv C))) rfl (argsL := as.map (cv C)) (rest := st.map (cv C)) (by rw [List.length_map]; exact par_len k5 hn _ hsigM) (by rw [← hst, List.map_append, List.map_reverse]; rfl) (by rw [hb]; exact hd)
  exact v_back (as := .ref b :: as) hI hL hS k1 hSp hM X₁ (X₁.named hnamed) hd hw hfr hu hp kk kt (fun target h => hstep₁ _ fun acts => by rw [doInvoke_state]; exact h)
theorem v_callS {idx n : Nat} (hd : decode K.1 pc = .ok (.invokestatic idx, 3)) (hk : CsS K.2.1 idx K' y n) (hSp : Sp C l K' y R' as S I J Po') (hn : as.length = n) (hst : as.reverse ++ st = stk) (hw : (st.map fun v => v.category).sum ≤ 8) (hfr : R'.1 + 1 ≤ R.1) (hu : u.1 + R'.2.1 ≤ R.2.1 ∧ u.2 + R'.2.2 ≤ R.2.2) (hp : pc + 3 = pc')
    (kk : ∀ (v : Option Value) (S' : ShT) (I' : DI) (J' : DJ), Po' (.inl v) S' I' J' → V C l K R Po pc' L (v.toList ++ st) S' I' J' (u.1 + R'.2.1, u.2 + R'.2.2))
    (kt : ∀ (ci k : Nat) (S' : ShT) (I' : DI) (J' : DJ), Po' (.inr ci) S' I' J' → S'.1 = k + 1 → (S'.2.1 k).1 = ci → VT C l K R Po pc L st S' I' J' (u.1 + R'.2.1, u.2 + R'.2.2) k) : V C l K R Po pc L stk S I J u := by
  intro p e s m args below meth c hI H ls locs hM hL hS h1 h2 T hT X
  subst hT
  obtain ⟨hC, hx, hb, hr, hml, hown, hlk, hh, hG, ⟨S0, I0, J0, hM0⟩, hnm⟩ := id hI
  obtain ⟨k1, k2, k3, k5⟩ := hk
  obtain ⟨-, -, -, hy, w5, w6, -⟩ := id k1
  obtain ⟨mk, hnamed⟩ := cwd_named (w5.at hC hG.1 args)
  obtain ⟨methM, cM, hmethM, -, -, -, -, -, -, hsigM⟩ := cwd_spec hnamed (w5.at hC hG.1 args)
  have hstatic : methM.isStatic = true := Cond.static_spec hnamed hmethM (k3.at hC hG.1 args)
  obtain ⟨kP, hkP, -⟩ := className_of_methodNamed hnamed
  have hinitP : kP.init = .initialized := Cond.initialized_spec (findClass_of_methodNamed hnamed) hkP (w6.at hC hG.1 args)
  obtain ⟨vm₁, X₁, hstep₁⟩ := X.invokestatic hx hown (k2.at hC hG.1 args) hnamed hmethM hstatic hkP hinitP hy (g := F0 m pc ls (stk.map (cv C))) rfl (argsL := as.map (cv C)) (rest := st.map (cv C)) (by rw [List.length_map]; exact par_len k5 hn _ hsigM) (by rw [← hst, List.map_append, List.map_reverse]) (by rw [hb]; exact hd)
  exact v_back (as := as) hI hL hS k1 hSp hM X₁ (X₁.named hnamed) hd hw hfr hu hp kk kt (fun target h => hstep₁ _ fun acts => by rw [doInvoke_state]; exact h)
theorem v_callN {idx n : Nat} (hd : decode K.1 pc = .ok (.invokestatic idx, 3)) (hk : CsN K.2.1 idx K' y n) (hSp : Sp C l K' y R' as S I J Po') (hn : as.length = n) (hst : as.reverse ++ st = stk) (hw : (st.map fun v => v.category).sum ≤ 8) (hfr : R'.1 + 1 ≤ R.1) (hu : u.1 + R'.2.1 ≤ R.2.1 ∧ u.2 + R'.2.2 ≤ R.2.2) (hp : pc + 3 = pc')
    (kk : ∀ (v : Option Value) (S' : ShT) (I' : DI) (J' : DJ), Po' (.inl v) S' I' J' → V C l K R Po pc' L (v.toList ++ st) S' I' J' (u.1 + R'.2.1, u.2 + R'.2.2))
    (kt : ∀ (ci k : Nat) (S' : ShT) (I' : DI) (J' : DJ), Po' (.inr ci) S' I' J' → S'.1 = k + 1 → (S'.2.1 k).1 = ci → VT C l K R Po pc L st S' I' J' (u.1 + R'.2.1, u.2 + R'.2.2) k) : V C l K R Po pc L stk S I J u := by
  intro p e s m args below meth c hI H ls locs hM hL hS h1 h2 T hT X
  subst hT
  obtain ⟨hC, hx, hb, hr, hml, hown, hlk, hh, hG, ⟨S0, I0, J0, hM0⟩, hnm⟩ := id hI
  obtain ⟨k1, ⟨host, k2⟩, k3, k5⟩ := hk
  obtain ⟨-, -, -, hy, w5, w6, -⟩ := id k1
  obtain ⟨mk, hnamed⟩ := cwd_named (w5.at hC hG.1 args)
  obtain ⟨methM, cM, hmethM, -, -, -, -, -, -, hsigM⟩ := cwd_spec hnamed (w5.at hC hG.1 args)
  have hstatic : methM.isStatic = true := Cond.static_spec hnamed hmethM (k3.at hC hG.1 args)
  obtain ⟨kP, hkP, -⟩ := className_of_methodNamed hnamed
  have hinitP : kP.init = .initialized := Cond.initialized_spec (findClass_of_methodNamed hnamed) hkP (w6.at hC hG.1 args)
  obtain ⟨vm₁, X₁, hstep₁⟩ := X.invokestaticNest hx hown (nest_at hC k2 hG.1 args) hnamed hmethM hstatic hkP hinitP hy (g := F0 m pc ls (stk.map (cv C))) rfl (argsL := as.map (cv C)) (rest := st.map (cv C)) (by rw [List.length_map]; exact par_len k5 hn _ hsigM) (by rw [← hst, List.map_append, List.map_reverse]) (by rw [hb]; exact hd)
  exact v_back (as := as) hI hL hS k1 hSp hM X₁ (X₁.named hnamed) hd hw hfr hu hp kk kt (fun target h => hstep₁ _ fun acts => by rw [doInvoke_state]; exact h)
theorem v_callI {b idx n : Nat} (hd : decode K.1 pc = .ok (.invokespecial idx, 3)) (hk : CsI K.2.1 idx K' y n) (hSp : Sp C l K' y R' (.ref b :: as) S I J Po') (hn : as.length = n) (hst : as.reverse ++ .ref b :: st = stk) (hw : (st.map fun v => v.category).sum ≤ 8) (hfr : R'.1 + 1 ≤ R.1) (hu : u.1 + R'.2.1 ≤ R.2.1 ∧ u.2 + R'.2.2 ≤ R.2.2) (hp : pc + 3 = pc')
    (kk : ∀ (v : Option Value) (S' : ShT) (I' : DI) (J' : DJ), Po' (.inl v) S' I' J' → V C l K R Po pc' L (v.toList ++ st) S' I' J' (u.1 + R'.2.1, u.2 + R'.2.2))
    (kt : ∀ (ci k : Nat) (S' : ShT) (I' : DI) (J' : DJ), Po' (.inr ci) S' I' J' → S'.1 = k + 1 → (S'.2.1 k).1 = ci → VT C l K R Po pc L st S' I' J' (u.1 + R'.2.1, u.2 + R'.2.2) k) : V C l K R Po pc L stk S I J u := by
  intro p e s m args below meth c hI H ls locs hM hL hS h1 h2 T hT X
  subst hT
  obtain ⟨hC, hx, hb, hr, hml, hown, hlk, hh, hG, ⟨S0, I0, J0, hM0⟩, hnm⟩ := id hI
  obtain ⟨k1, k2, k3, k4, k4b, hy1, k5⟩ := hk
  obtain ⟨-, -, -, hy, w5, w6, -⟩ := id k1
  have hpl : e.platform.magicAccessors = ({} : Platform).magicAccessors := by rw [X.admits.platform]
  have hcode : (Cond.code y K'.1 K'.2.2.2.2.1 none).before args s = true := by
    have h := w5.at hC hG.1 args
    unfold cwd at h
    rw [k4, k4b] at h
    exact h
  have hlenA : ∀ sig, parseMethodDescriptor y.desc = some sig → (as.map (cv C)).length = sig.parameters.length := by
    intro sig h
    rw [List.length_map]
    exact par_len k5 hn sig h
  have hstk : (F0 m pc ls (stk.map (cv C))).stack = (as.map (cv C)).reverse ++ .ref (c0 C + b) :: st.map (cv C) := by
    show stk.map (cv C) = _
    rw [← hst, List.map_append, List.map_reverse]
    rfl
  rcases k2 with k2 | ⟨host, k2⟩
  · obtain ⟨mk, methM, cM, kP, vm₁, hnamed, hmethM, hcodeM, -, hlocalsM, -, hkP, -, hW₁, hstep₁⟩ := Steps.initColdArgs (e := e) X.here hx X.warmed hpl hown hy1 hy (k2.at hC hG.1 args) (k3.at hC hG.1 args) hcode (f := F0 m pc ls (stk.map (cv C))) rfl hlenA hstk (by rw [hb]; exact hd)
    have X₁ := X.noted hW₁
    exact v_back (as := .ref b :: as) hI hL hS k1 hSp hM X₁ (X₁.named hnamed) hd hw hfr hu hp kk kt (fun target h => hstep₁ _ fun acts => by rw [doInvoke_state]; exact h)
  · obtain ⟨mk, methM, cM, kP, vm₁, hnamed, hmethM, hcodeM, -, hlocalsM, -, hkP, -, hW₁, hstep₁⟩ := Steps.initColdArgsNest (e := e) X.here hx X.warmed hpl hown hy1 hy (nest_at hC k2 hG.1 args) (k3.at hC hG.1 args) hcode (f := F0 m pc ls (stk.map (cv C))) rfl hlenA hstk (by rw [hb]; exact hd)
    have X₁ := X.noted hW₁
    exact v_back (as := .ref b :: as) hI hL hS k1 hSp hM X₁ (X₁.named hnamed) hd hw hfr hu hp kk kt (fun target h => hstep₁ _ fun acts => by rw [doInvoke_state]; exact h)
end Rows

/-! ===== new int[N][M] ===== -/
theorem ao_spec {a : Array Value} {s : State} {t : FieldType} (h : (Cond.arrayOver (.array t)).before a s = true) :
    ∃ comp c k, s.vm.findClass (FieldType.array t).toString = some comp ∧ (s.vm.classes.findIdx? fun (x : Class) => match x.kind with | .array component _ => component == comp | _ => false) = some c ∧ s.vm.classes[c]? = some k ∧ k.kind = .array comp (.array t) ∧ s.vm.findClass ("[" ++ (FieldType.array t).toString) = some c := by
  unfold Cond.before Cond.holds at h
  simp only [Cond.value, beq_iff_eq] at h
  cases hc : s.vm.findClass (FieldType.array t).toString with
  | none => simp [hc] at h
  | some comp =>
    cases hi : (s.vm.classes.findIdx? fun (x : Class) => match x.kind with | .array component _ => component == comp | _ => false) with
    | none =>
      rw [hc, Option.bind_some] at h
      have h' := (congrArg (fun o : Option Nat => (o.bind (fun c => (s.vm.classes[c]?).map fun (k : Class) => match k.kind with | .array _ ty => decide (ty = FieldType.array t) && decide (s.vm.findClass ("[" ++ (FieldType.array t).toString) = some c) | _ => false))) hi).symm.trans h
      simp at h'
    | some c =>
      rw [hc, Option.bind_some] at h
      have h' := (congrArg (fun o : Option Nat => (o.bind (fun c => (s.vm.classes[c]?).map fun (k : Class) => match k.kind with | .array _ ty => decide (ty = FieldType.array t) && decide (s.vm.findClass ("[" ++ (FieldType.array t).toString) = some c) | _ => false))) hi).symm.trans h
      simp only [Option.bind_some] at h'
      cases hk : s.vm.classes[c]? with
      | none => simp [hk] at h'
      | some k =>
        rw [hk, Option.map_some] at h'
        have h2 := Option.some.inj h'
        cases hkind : k.kind with
        | array comp' ty =>
          rw [hkind] at h2
          simp only [Bool.and_eq_true, decide_eq_true_eq] at h2
          have hp := Array.findIdx?_eq_some_iff_getElem.mp hi
          obtain ⟨hlt, hp1, -⟩ := hp
          have he : s.vm.classes[c] = k := by
            have := Array.getElem?_eq_getElem hlt
            rw [hk] at this
            exact (Option.some.inj this).symm
          rw [he, hkind] at hp1
          have hcc : comp' = comp := by simpa using hp1
          exact ⟨comp, c, k, rfl, hi, hk, by rw [hkind, hcc, h2.1], h2.2⟩
        | _ => rw [hkind] at h2; simp at h2
theorem ao_moved {a a' : Array Value} {t : FieldType} {u U : State} (hvm : u.vm.Alike U.vm) (h : (Cond.arrayOver (.array t)).before a u = true) : (Cond.arrayOver (.array t)).before a' U = true := by
  obtain ⟨comp, c, k, h1, h2, h3, h4, h5⟩ := ao_spec h
  obtain ⟨k', hk', he⟩ := hvm.2.2 _ _ h3
  have hi : (U.vm.classes.findIdx? fun (x : Class) => match x.kind with | .array component _ => component == comp | _ => false) = some c := by
    have hb := hvm.bare_eq
    have e1 := va_idx_bare U.vm comp
    have e2 := va_idx_bare u.vm comp
    first | rw [hb] at e2 | rw [← hb] at e2
    exact e1.symm.trans (e2.trans h2)
  have hkind : k'.kind = .array comp (.array t) := by rw [he]; exact h4
  have f1 : U.vm.findClass (FieldType.array t).toString = some comp := by rw [hvm.findClass]; exact h1
  have f2 : U.vm.findClass ("[" ++ (FieldType.array t).toString) = some c := by rw [hvm.findClass]; exact h5
  unfold Cond.before Cond.holds
  simp only [Cond.value]
  rw [f1, Option.bind_some]
  refine (congrArg (fun o : Option Nat => (o.bind (fun c => (U.vm.classes[c]?).map fun (k : Class) => match k.kind with | .array _ ty => decide (ty = FieldType.array t) && decide (U.vm.findClass ("[" ++ (FieldType.array t).toString) = some c) | _ => false) == some true)) hi).trans ?_
  simp [hk', hkind, f2]
theorem vr_out (c : ClassId) (N h0 : Nat) : ∀ i : Nat, Jvm.Free.Multi.outerC c N h0 i = arrV c N (fun j => va_rf (if j < i then some (h0 + 1 + j) else none))
  | 0 => by
    show ({ cls := c, slots := Array.replicate N .null, vm := .none } : Cell) = _
    rw [arrV_new]
    refine congrArg (arrV c N) (funext fun j => ?_)
    simp [va_rf]
  | i + 1 => by
    show (Jvm.Free.Multi.outerC c N h0 i).setSlot i (.ref (h0 + 1 + i)) = _
    rw [vr_out c N h0 i, arrV_store]
    refine congrArg (arrV c N) (funext fun j => ?_)
    by_cases e : j = i
    · subst e
      simp [updV, va_rf]
    · by_cases h : j < i
      · simp [updV, e, h, Nat.lt_succ_of_lt h]
      · simp [updV, e, h, show ¬ j < i + 1 by omega]
section Rows
variable {C : CT} {l : Launch} {K : KT} {R : RT} {Po : PoT} {pc pc' : Nat} {L L' : LT} {st : List Value} {S S' : ShT} {I I' : DI} {J J' : DJ} {u : Nat × Nat}
theorem v_mna {N M idx : Nat} {x y : Int32} (hd : decode K.1 pc = .ok (.multianewarray idx 2, 4)) (hw1 : Wd (.classLink K.2.1 idx "[[I")) (hw2 : Cond.arrayOver (.array .int) ∈ lw_tbl) (hw3 : Wd (.arrayClass .int)) (hx : x = nI N) (hy : y = nI M) (hN : N ≤ 1000) (hM1 : M ≤ 1000) (hu : u.1 + (1 + N) ≤ R.2.1 ∧ u.2 + (N + N * M) ≤ R.2.2) (hp : pc + 4 = pc')
    (kk : V C l K R Po pc' L (.ref S.1 :: st) (ad2 S N M) (zf I S.1 0) (zf J S.1 0) (u.1 + 1 + N, u.2 + N + N * M)) : V C l K R Po pc L (.int y :: .int x :: st) S I J u := by
  intro p e s m args below meth c hI H ls locs hM hL hS h1 h2 T hT X
  subst hT
  subst hp
  obtain ⟨hC, hx0, hb, hr, hml, hown, hlk, hh, hG, ⟨S0, I0, J0, hM0⟩, hnm⟩ := id hI
  have cx : x.toNatClampNeg = N := by rw [hx]; exact nI_clamp (by omega)
  have cy : y.toNatClampNeg = M := by rw [hy]; exact nI_clamp (by omega)
  have hRA : s.vm.findClass "[I" = some (cA C 32) := (hG.arr hC (t := 32) (by omega)).2
  have hRA2 : s.vm.findClass "[[I" = some (cA C 37) := (hG.arr hC (t := 37) (by omega)).2
  obtain ⟨vm₁, cA1, comp, -, fA1, fC, hO, -, X', step⟩ := X.multianewarray2F (ty := .int) hx0 hown (hw1.at hC hG.1 args) (ao_moved hG.1.alike (hC.2.1 _ hw2)) (hw3.at hC hG.1 args) (g := F0 m pc ls ((.int y :: .int x :: st).map (cv C))) rfl (by rw [hb]; exact hd) (n := x) (k := y) (rest := st.map (cv C)) rfl (by rw [hx]; exact nI_pos (by omega)) (by rw [hy]; exact nI_pos (by omega)) (by rw [cx]; omega) (by rw [cy]; simp only [componentBytes]; omega) (by rw [cy]; omega) rfl rfl (by rw [cx]; exact hu.1) (by rw [cx, cy]; exact hu.2)
  cases hRA.symm.trans (show s.vm.findClass "[I" = some comp from fC)
  cases hRA2.symm.trans (show s.vm.findClass "[[I" = some cA1 from fA1)
  rw [cx, cy] at X' step
  generalize hF : Jvm.Free.Multi.fill (T.setVm vm₁) (cA C 37) (cA C 32) N M (defaultValue .int) N = F at X' step
  have hTh : (T.setVm vm₁).heap = T.heap := rfl
  obtain ⟨f1, f2, -, -⟩ := Jvm.Free.Multi.fill_facts (T.setVm vm₁) (cA C 37) (cA C 32) N M (defaultValue .int) N
  rw [hF, hTh] at f1 f2
  have hold : ∀ q : Nat, q < T.heap.size → F.heap[q]? = T.heap[q]? := fun q hq => by
    have := Jvm.Free.Multi.fill_old (T.setVm vm₁) (cA C 37) (cA C 32) N M (defaultValue .int) (a := q) (by rw [hTh]; exact hq) N
    rw [hF, hTh] at this
    exact this
  have hrow : ∀ j : Nat, j < N → F.heap[T.heap.size + 1 + j]? = some (arrV (cA C 32) M (fun _ => .int 0)) := fun j hj => by
    have := Jvm.Free.Multi.fill_inner (T.setVm vm₁) (cA C 37) (cA C 32) N M (defaultValue .int) N j hj
    rw [hF, hTh] at this
    rw [this, ← arrV_new]
    rfl
  rw [vr_out] at f2
  have hMR : MR C (ad2 S N M) (zf I S.1 0) (zf J S.1 0) F.heap := by
    refine hM.grow (by rw [f1, hM.1]; show c0 C + S.1 + 1 + N = c0 C + (S.1 + 1 + N); omega) hold (fun k hk => ⟨?_, ?_, zf_lt hk, zf_lt hk⟩) (fun k g1 g2 => ?_)
    · show (if k = S.1 then _ else if S.1 < k then _ else _) = _
      rw [if_neg (by omega), if_neg (by omega)]
    · funext j
      show (if k = S.1 then _ else zf S.2.2 S.1 none k j) = _
      rw [if_neg (by omega), zf_lt hk]
    · have g2 : k < S.1 + 1 + N := g2
      by_cases e0 : k = S.1
      · subst e0
        rw [cel_a (t := 37) (n := N) (by show (if S.1 = S.1 then _ else _ : Nat × Nat) = _; rw [if_pos rfl]) (by omega)]
        show F.heap[c0 C + S.1]? = some (vp_cell _ _)
        rw [← hM.1, f2, vcq (by omega)]
        congr 2
        funext j
        show _ = va_rf ((if S.1 = S.1 then (if j < N then some (S.1 + 1 + j) else none) else _ : Option Nat).map _)
        rw [if_pos rfl]
        by_cases hj : j < N
        · rw [if_pos hj, if_pos hj, hM.1]
          exact congrArg Value.ref (show c0 C + S.1 + 1 + j = c0 C + (S.1 + 1 + j) by omega)
        · rw [if_neg hj, if_neg hj]
          rfl
      · rw [cel_a (t := 32) (n := M) (by show (if k = S.1 then _ else if S.1 < k then _ else _ : Nat × Nat) = _; rw [if_neg e0, if_pos (by omega)]) (by omega)]
        show F.heap[c0 C + k]? = some (vp_cell _ _)
        have := hrow (k - S.1 - 1) (by omega)
        rw [show T.heap.size + 1 + (k - S.1 - 1) = c0 C + k by rw [hM.1]; omega] at this
        rw [this, vc32]
        congr 2
        funext j
        rw [zf_ge g1]
  obtain ⟨t, a1, b1⟩ := kk p e s m args below meth c hI F.heap ls locs hMR hL (hS.grow (by rw [f1]; omega) hold) (by have := hu.1; show u.1 + 1 + N ≤ _; omega) (by have := hu.2; show u.2 + N + N * M ≤ _; omega) F rfl X'
  refine ⟨t, step t ?_, b1⟩
  have hsz : T.heap.size = c0 C + S.1 := hM.1
  rw [hsz]
  exact a1
end Rows

/-! ===== throw new X() ===== -/
theorem exW_ok {ci : Nat} (h : ci = 9 ∨ ci = 10 ∨ ci = 11) : ∀ w ∈ exW (kN ci), okX w = true := by
  rcases h with rfl | rfl | rfl
  · exact List.all_eq_true.mp exW9
  · exact List.all_eq_true.mp exW10
  · exact List.all_eq_true.mp exW11
theorem ex_atoms {own : String} {ic : Nat} {X : String} {w : Cond} (h : w ∈ Bundle.ownAtoms0 own ic X exN) : w = .methodLink own ic (Bundle.init0 X) ∨ w ∈ exW X := by
  unfold exW
  unfold Bundle.ownAtoms0 at h
  rcases List.mem_append.mp h with h | h
  · exact Or.inr (List.mem_append_left _ h)
  · rcases List.mem_cons.mp h with h | h
    · exact Or.inl h
    · exact Or.inr (List.mem_append_right _ h)
theorem cell_same {c c' : Cell} (h1 : c' = { c with slots := c'.slots }) (h2 : c'.slots.size = c.slots.size) (h3 : ∀ i : Nat, c'.slots[i]? = c.slots[i]?) : c' = c := by
  have h4 : c'.slots = c.slots := Array.ext_getElem? h3
  rw [h1, h4]
section Rows
variable {C : CT} {l : Launch} {K : KT} {R : RT} {Po : PoT} {pc pc' : Nat} {L L' : LT} {st : List Value} {S S' : ShT} {I I' : DI} {J J' : DJ} {u : Nat × Nat}
theorem v_throw {ci idx ic : Nat} (hci : ci = 9 ∨ ci = 10 ∨ ci = 11) (hd0 : decode K.1 pc = .ok (.new idx, 3)) (hd3 : decode K.1 (pc + 3) = .ok (.dup, 1)) (hd4 : decode K.1 (pc + 4) = .ok (.invokespecial ic, 3)) (hd7 : decode K.1 (pc + 7) = .ok (.athrow, 1)) (hw1 : Wd (.classLink K.2.1 idx (kN ci))) (hw2 : Wd (.instantiable (kN ci) 6)) (hw3 : Wd (.initialized (kN ci))) (hw4 : Wd (.methodLink K.2.1 ic (Bundle.init0 (kN ci)))) (hh0 : K.2.2.2.1 = []) (hR : 6 ≤ R.1) (hu : u.1 + 1 ≤ R.2.1 ∧ u.2 + 6 ≤ R.2.2)
    (hp : Po (.inr ci) (ad1 S (ci, 0)) (zf I S.1 0) (zf J S.1 0)) : V C l K R Po pc L [] S I J u := by
  intro p e s m args below meth c hI H ls locs hM hL hS h1 h2 T hT X
  subst hT
  obtain ⟨hC, hx, hb, hr, hml, hown, hlk, hh, hG, ⟨S0, I0, J0, hM0⟩, hnm⟩ := id hI
  have hc : ci < 12 := by omega
  have X' := st_anew X (show u.1 ≤ (RM R).cells from h1) (show u.2 ≤ (RM R).slots from h2)
  have hGT : GG C T := hG.on hS hM0.z rfl X.warmed
  generalize hs' : T.setFrames (.invoking m args :: below) = s' at X'
  have hG' : GG C s' := by rw [← hs']; exact hGT
  have hh' : s'.heap = T.heap := by rw [← hs']; rfl
  have hvm' : s'.vm = T.vm := by rw [← hs']; rfl
  have hown' : s'.vm.findClass K.2.1 = some m.cls := by rw [hvm', X.warmed.alike.findClass]; exact hown
  have hKn := (hG'.K hC).1 ci _ (vw_at hc)
  have hw : W p l e { frames := (RM R).frames, cells := (RM R).cells - u.1, slots := (RM R).slots - u.2, locals := (RM R).locals } s' m args below meth c T.heap [] 0 0 (fun t => t.status = .running ∧ Ended t below (.threw (c0 C + S.1)) ∧ s'.WarmedH t.vm ∧ s'.sameButNew ({ t with vm := s'.vm } : State) [] 1 6 ∧ ∃ ce, t.heap[c0 C + S.1]? = some ce ∧ ce.cls = (cD C).1 ci ∧ ce.vm = .none) (F0 m pc ls []) := by
    refine W.newcK hx hb hown' (hw1.at hC hG'.1 args) (hw2.at hC hG'.1 args) (hw3.at hC hG'.1 args) rfl hd0 (by show 0 + 1 ≤ R.2.1 - u.1; omega) (by show 0 + 6 ≤ R.2.2 - u.2; omega) hKn.2.1 hM.1 fun H1 kC hkC e1 z1 o1 => ?_
    refine lv_dup (rest := []) hx hb (va := .ref (c0 C + S.1)) hd3 rfl ?_
    intro T1 hT1 X1
    subst hT1
    obtain ⟨U, st1, b1, b2, b3, b4, ce, b5, b6⟩ := X1.ctorThrow0 (own := K.2.1) (cls := kN ci) (names := exN) (ic := ic) hx (Launch.traces_off hC.1 X1.admits) hown' (by rcases hci with rfl | rfl | rfl <;> decide +kernel) (by decide +kernel)
      (fun a ha => by
        rcases ex_atoms ha with rfl | ha
        · exact hw4.at hC hG'.1 args
        · exact okX_at (exW_ok hci a ha) hC hG' args)
      (fun z hz => by cases hz)
      (a := c0 C + S.1) hKn.2.1 hkC e1 (by rw [hh', hM.1]; exact Nat.le_refl _) (g := F0 m (pc + 3 + 1) ls [.ref (c0 C + S.1), .ref (c0 C + S.1)]) rfl (by rw [hml]; exact hL.1) rfl rfl (rest := []) rfl (by rw [hb]; exact hd4) (by rw [hb]; exact hd7)
      (fun x hx9 => by
        rw [hh0] at hh
        have h9 : c.exceptionTable.toList = [] := List.map_eq_nil_iff.mp hh
        rw [h9] at hx9
        cases hx9)
      (by show 2 + 3 < R.1; omega) (by have h9 := lv_room (m := m) (pc := pc + 3 + 1) (ls := ls) (rest := [.ref (c0 C + S.1), .ref (c0 C + S.1)]) (st := [.ref (c0 C + S.1)]) (Nat.le_of_ble_eq_true rfl); show 2 * (F0 m (pc + 3 + 1) ls _).monitorRoom + ([Value.ref (c0 C + S.1)].map fun v => v.category).sum + (13 * (2 + 1) + 41) ≤ 36 * R.1; omega) hlk
    refine ⟨U, st1, b1, b2, b3, b4, ce, b5, ?_, b6.vm⟩
    exact Option.some.inj (b6.cls.symm.trans hKn.2.1)
  obtain ⟨t, a1, a2, a3, a4, a5, ce, a6, a7, a8⟩ := hw T rfl X'
  have hlt : c0 C + S.1 < t.heap.size := (Array.getElem?_eq_some_iff.mp a6).1
  have hz : t.heap.size = c0 C + (S.1 + 1) := by
    have g1 : t.heap.size ≤ s'.heap.size + 1 := a5.2.2.1
    rw [hh', hM.1] at g1
    omega
  have hold : ∀ q, q < T.heap.size → t.heap[q]? = T.heap[q]? := by
    intro q hq
    have hq1 : s'.heap[q]? = some T.heap[q] := by rw [hh']; exact Array.getElem?_eq_getElem hq
    obtain ⟨c9, g1, g2, g3, g4⟩ := a5.2.2.2.2.2 q _ hq1
    have g5 := cell_same g2 g3 (fun i => g4 i (by simp))
    have g1 : t.heap[q]? = some c9 := g1
    rw [g1, g5]
    exact (Array.getElem?_eq_getElem hq).symm
  refine ⟨t, a1, .threw (c0 C + S.1), a2, a3, ⟨.inr ci, _, _, _, hp, ?_, ?_, S.1, rfl, by show (if S.1 = S.1 then _ else _ : Nat × Nat).1 = ci; rw [if_pos rfl], rfl⟩, locs, ?_, ?_, hS.2.2⟩
  · refine hM.grow hz hold (fun k hk => ⟨?_, zf_lt hk, zf_lt hk, zf_lt hk⟩) (fun k g1 g2 => ?_)
    · show (if k = S.1 then _ else _) = _
      rw [if_neg (by omega)]
    · have hk : k = S.1 := by have : k < S.1 + 1 := g2; omega
      subst hk
      rw [cel_o (ci := ci) (by show (if S.1 = S.1 then _ else _ : Nat × Nat).1 = ci; rw [if_pos rfl]) hc]
      refine ⟨_, vw_at hc, ce, a6, a7, a8, fun j hj => ?_⟩
      have hkind : kF ci = 0 := by rcases hci with rfl | rfl | rfl <;> rfl
      rw [show (kN ci, kT ci, kF ci).2.2 = kF ci from rfl, hkind] at hj
      exact absurd hj (Nat.not_lt_zero _)
  · exact ⟨State.WarmedH.trans hG'.1 a4, fun q hq => by rw [hold q (by rw [hM.1]; omega)]; exact hGT.2 q hq⟩
  · exact State.WarmedH.trans X.warmed (show T.WarmedH t.vm by rw [← hs'] at a4; exact a4)
  · have h9 : T.sameButNew ({ t with vm := T.vm } : State) [] 1 6 := by
      rw [← hs'] at a5
      obtain ⟨g1, g2⟩ := a5
      refine ⟨?_, g2⟩
      rw [State.setFrames_setFrames] at g1
      exact g1
    have h8 := X.same.trans (h9.setVm s.vm)
    rw [List.append_nil] at h8
    exact h8.mono hu.1 hu.2
end Rows

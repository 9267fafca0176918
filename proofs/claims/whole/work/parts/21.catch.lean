section Rows
variable {C : CT} {l : Launch} {K : KT} {R : RT} {Po : PoT} {pc pc' : Nat} {L L' : LT} {st : List Value} {S S' : ShT} {I I' : DI} {J J' : DJ} {u : Nat × Nat}
/-- the thrown object is caught by the row x of the method's table; the rows ahead of it name other classes -/
theorem v_catch {k ci : Nat} {pre post : List (Nat × Nat × Nat × Nat)} {x : Nat × Nat × Nat × Nat} (hh : K.2.2.2.1 = pre ++ x :: post) (hci : ci = 9 ∨ ci = 10 ∨ ci = 11) (hk : isO S k ci) (hyes : (x.1 ≤ pc ∧ pc < x.2.1) ∧ x.2.2.2 ≠ 0 ∧ Wd (.classLink K.2.1 x.2.2.2 (kN ci)))
    (hno : ∀ y ∈ pre, (y.1 ≤ pc ∧ pc < y.2.1) ∧ y.2.2.2 ≠ 0 ∧ ∃ cj, (cj = 9 ∨ cj = 10 ∨ cj = 11) ∧ ci ≠ cj ∧ Wd (.classLink K.2.1 y.2.2.2 (kN cj))) (hpc : x.2.2.1 = pc') (kk : V C l K R Po pc' L [.ref k] S I J u) : VT C l K R Po pc L st S I J u k := by
  intro p e s m args below meth c hI T ls locs hM hL hS h1 h2 X
  obtain ⟨hC, hx, hb, hr, hml, hown, hlk, htb, hG, ⟨S0, I0, J0, hM0⟩, hnm⟩ := id hI
  subst hpc
  have hpl : e.platform.magicAccessors = ({} : Platform).magicAccessors := by rw [X.admits.platform]
  have hGT : GG C T := hG.on hS hM0.z rfl X.warmed
  rw [hh] at htb
  obtain ⟨pre', tl, e1, e2, e3⟩ := List.map_eq_append_iff.mp htb
  obtain ⟨x', post', e4, e5, e6⟩ := List.map_eq_cons_iff.mp e3
  subst e4
  have hvm : ((T.setTop (F0 m pc ls (st.map (cv C)))).pushFrame (.throwing (c0 C + k))).vm = T.vm := Stand.throwing_vm _ _ _
  have hhp : ((T.setTop (F0 m pc ls (st.map (cv C)))).pushFrame (.throwing (c0 C + k))).heap = T.heap := Stand.throwing_heap _ _ _
  have hPv := hM.2 k hk.1
  rw [cel_o hk.2 (by omega)] at hPv
  obtain ⟨r', hr', cellV, g1, g2, g3, -⟩ := hPv
  obtain ⟨vm', w1, w2⟩ := find_to hC hpl (own := K.2.1) hci (f := F0 m pc ls (st.map (cv C))) (a := c0 C + k) x' post' (by
      rw [← e5] at hyes
      refine ⟨?_, hyes.2.1, hyes.2.2⟩
      simp only [covers, Bool.and_eq_true, decide_eq_true_eq]
      exact hyes.1) pre' ((T.setTop (F0 m pc ls (st.map (cv C)))).pushFrame (.throwing (c0 C + k))) (by rw [hvm]; exact hGT.1) (by rw [hvm, X.warmed.alike.findClass]; exact hown) ⟨cellV, by rw [hhp]; exact g1, g2, g3⟩ (fun y hy => by
      have h9 := hno _ (by rw [← e2]; exact List.mem_map_of_mem hy)
      refine ⟨?_, h9.2.1, h9.2.2⟩
      simp only [covers, Bool.and_eq_true, decide_eq_true_eq]
      exact h9.1)
  have hW' : T.WarmedH vm' := by
    have h9 := w1
    unfold State.WarmedH at h9 ⊢
    first | exact h9 | (rw [hvm] at h9; exact h9)
  have X' := X.noted (State.WarmedH.trans X.warmed hW')
  obtain ⟨t, a1, b1⟩ := kk p e s m args below meth c hI T.heap ls locs hM hL hS h1 h2 (T.setVm vm') rfl X'
  refine ⟨t, caught_to (g := F0 m pc ls (st.map (cv C))) X.here (pc := x'.handlerPc) (vm' := vm') ?_ ?_, b1⟩
  · intro Q E d acts
    rw [Jvm.W.findHandler_eq (meth := meth) (code := c) (by rw [hvm]; exact X.method') X.code, e1]
    exact w2 Q E d acts
  · rw [← e5] at a1
    exact a1
end Rows

/-! ===== THE START: what holds of the machine; the walk of the law; the claim ===== -/
theorem arr_start {s : State} {a : Array Value} (hts : ∀ w ∈ lw_tbl, w.before a s = true) (t : Nat) : ∃ cA : ClassId, 32 ≤ t → ArrOfT s cA (tgT t) ∧ va_RA s cA (tgT t) := by
  by_cases h32 : t = 32
  · subst h32
    obtain ⟨c, k, comp, h1, h2, h3⟩ := Cond.arrayClass_spec (hts _ wa_int.1)
    exact ⟨c, fun _ => ⟨fun n z => ⟨fun k h => (by cases h), k, h2, comp, h3⟩, h1⟩⟩
  · by_cases h33 : t = 33
    · subst h33
      obtain ⟨c, k, comp, h1, h2, h3⟩ := Cond.arrayClass_spec (hts _ wa_boolean.1)
      exact ⟨c, fun _ => ⟨fun n z => ⟨fun k h => (by cases h), k, h2, comp, h3⟩, h1⟩⟩
    · by_cases h34 : t = 34
      · subst h34
        obtain ⟨c, k, comp, h1, h2, h3⟩ := Cond.arrayClass_spec (hts _ wa_long.1)
        exact ⟨c, fun _ => ⟨fun n z => ⟨fun k h => (by cases h), k, h2, comp, h3⟩, h1⟩⟩
      · by_cases h35 : t = 35
        · subst h35
          obtain ⟨comp, c, k, h1, h2, h3, h4, h5⟩ := Cond.arrayOver_spec (hts _ wv_En)
          exact ⟨c, fun _ => ⟨fun n z => ⟨fun k h => (by cases h), k, h3, comp, h4⟩, k, comp, h3, h4, h1, h5⟩⟩
        · by_cases h36 : t = 36
          · subst h36
            obtain ⟨comp, c, k, h1, h2, h3, h4, h5⟩ := Cond.arrayOver_spec (hts _ wv_Tm)
            exact ⟨c, fun _ => ⟨fun n z => ⟨fun k h => (by cases h), k, h3, comp, h4⟩, k, comp, h3, h4, h1, h5⟩⟩
          · obtain ⟨comp, c, k, h1, h2, h3, h4, h5⟩ := ao_spec (hts _ wv_a)
            have e : tgT t = .array .int := by unfold tgT; split <;> first | omega | rfl
            rw [e]
            exact ⟨c, fun _ => ⟨fun n z => ⟨fun k h => (by cases h), k, h3, comp, h4⟩, h5⟩⟩
theorem kn_start {s : State} {a : Array Value} (hts : ∀ w ∈ lw_tbl, w.before a s = true) (c : Nat) : ∃ (cC : ClassId) (iS : Nat → Nat), c < 12 → u_Kn s (kN c) (kT c) (kF c) cC iS := by
  by_cases hc : c < 12
  · have hin : ∃ N, (Cond.instantiable (kN c) N).before a s = true := by
      obtain rfl | rfl | rfl | rfl | rfl | rfl | rfl | rfl | rfl | rfl | rfl | rfl : c = 0 ∨ c = 1 ∨ c = 2 ∨ c = 3 ∨ c = 4 ∨ c = 5 ∨ c = 6 ∨ c = 7 ∨ c = 8 ∨ c = 9 ∨ c = 10 ∨ c = 11 := by omega
      · exact ⟨_, hts _ wn_En.1⟩
      · exact ⟨_, hts _ wn_Ix.1⟩
      · exact ⟨_, hts _ wn_Qy.1⟩
      · exact ⟨_, hts _ wn_Qu.1⟩
      · exact ⟨_, hts _ wn_Rk.1⟩
      · exact ⟨_, hts _ wn_Tm.1⟩
      · exact ⟨_, hts _ wn_Tr.1⟩
      · exact ⟨_, hts _ wn_Fi.1⟩
      · exact ⟨_, hts _ wn_Md.1⟩
      · exact ⟨_, hts _ wn_Ea.1⟩
      · exact ⟨_, hts _ wn_Es.1⟩
      · exact ⟨_, hts _ wn_Ne.1⟩
    obtain ⟨N, hN⟩ := hin
    obtain ⟨cC, iS, h⟩ := u_known hts (ly_all c) hN
    exact ⟨cC, iS, fun _ => h⟩
  · exact ⟨0, fun _ => 0, fun h => absurd h hc⟩
theorem vw_in {c : Nat} {q : vw_C} (h : vwCl[c]? = some q) : c < 12 := (List.getElem?_eq_some_iff.mp h).1
theorem okc_start {s : State} {b L : Nat} {xs : Nat → Int32} {l : Launch} (hfl : l.flags = flags0) (hts : ∀ w ∈ lw_tbl, w.before #[Value.ref b] s = true) (hX : va_X b L xs s s.heap) (hbl : b < s.heap.size) (hgv : (Jvm.Cond.and given_1 narrow_1).before #[Value.ref b] s = true) :
    ∃ (D : va_G) (A : Nat → ClassId), OKC (s, #[Value.ref b], b, L, xs, D, A) l := by
  have hs := flat_of_before _ hgv
  refine ⟨(fun c => (kn_start hts c).choose, fun c => (kn_start hts c).choose_spec.choose), fun t => (arr_start hts t).choose, hfl, hts, ⟨fun c q hq => ?_, fun k q h => by simp at h⟩, fun t ht => (arr_start hts t).choose_spec ht, hX, hbl, hs _ (by decide +kernel), hs _ (by decide +kernel), fun i j hi hj hij => ?_⟩
  · have hc := vw_in hq
    have h := (kn_start hts c).choose_spec.choose_spec hc
    rw [vw_at hc] at hq
    cases hq
    exact h
  · rcases hi with rfl | rfl | rfl <;> rcases hj with rfl | rfl | rfl <;> first | exact absurd rfl hij | exact hs _ (by decide +kernel)
theorem room_start {s : State} {pl : Platform} (h : s.hasRoom pl room_1 = true) : s.hasRoom pl (RM (10, 601024, 7293034)) = true := by
  have e1 : (RM (10, 601024, 7293034)).locals ≤ room_1.locals := by decide
  simp only [State.hasRoom, Bool.and_eq_true, decide_eq_true_eq] at h ⊢
  obtain ⟨⟨⟨⟨h1, h2, h3, h4, h5, h6⟩, h7⟩, h8⟩, h9⟩ := h
  exact ⟨⟨⟨⟨by omega, h2, h3, by omega, by omega, h6⟩, h7⟩, h8⟩, h9⟩

def LI0 : List ((Nat × Nat) × Int32) := [((127, 0), -1), ((126, 0), 1), ((125, 0), 1), ((124, 30), -1), ((0, 5), -1), ((2, 0), 1)]
theorem rel_init : REL (mA 0 LI0) (mA 0 []) (mA 0 LI0) (mA 0 []) := by
  have z0 : (0 : Int32) = nI 0 := by decide
  have q2 : ∀ j, j < 16 → mA 0 LI0 2 j = mst (mA 0 LI0) j ∧ (¬ mA 0 LI0 2 j = 0 → j = 0) := by decide +kernel
  have q3 : ∀ j, j < 16 → mA 0 LI0 3 j = 0 ∧ (1 ≤ j → mA 0 LI0 3 j = mA 0 LI0 127 j) := by decide +kernel
  have q21 : ∀ j, j < 16 → mA 0 LI0 21 j = 0 ∧ mA 0 LI0 129 j = 0 := by decide +kernel
  have q27 : ∀ j, j < 16 → mA 0 LI0 27 j = 0 ∧ mA 0 LI0 133 j = 0 := by decide +kernel
  have qE : ∀ j, j < 16 → mA 0 LI0 (28 + 3 * j) 2 = 0 ∧ mA 0 LI0 134 j = 0 := by decide +kernel
  refine ⟨⟨fun j hj => ⟨0, by omega, (q21 j hj).1.trans z0, (q21 j hj).2.trans z0, fun i hi => by omega⟩, ⟨by decide +kernel, by decide +kernel, fun j hj => ⟨(q27 j hj).1.trans (q27 j hj).2.symm, Or.inl (q27 j hj).1⟩, fun j hj => ⟨0, by omega, (qE j hj).1.trans z0, (qE j hj).2.trans z0, fun i hi => by omega⟩⟩, ⟨0, by omega, by decide +kernel, by decide +kernel, fun i hi => by omega⟩, by decide +kernel, ⟨0, by omega, by decide +kernel, by decide +kernel, fun i hi => by omega⟩⟩,
    ⟨⟨by decide +kernel, fun j hj => ⟨0, by omega, (q3 j hj).1.trans z0⟩, fun j hj hs => ?_, fun j hj1 hj hs => ?_⟩, fun j hj => (q2 j hj).1, by decide +kernel, fun j hj1 hj => (q3 j hj).2 hj1⟩, ⟨0, ⟨by omega, by decide +kernel, fun _ => rfl, fun i hi => by omega, fun i k hi => by omega⟩, by decide +kernel, by decide +kernel, by decide +kernel, fun i hi => by omega⟩⟩
  · rw [(q2 j hj).2 hs]; exact zro_z _ _
  · have := (q2 j hj).2 hs; omega
/-- what REL says of the class's cells, of the model's -/
theorem REL.hyC {A B : DI} {K M : DJ} (h : REL A K B M) : (∃ m, m ≤ 8 ∧ A 22 2 = nI m ∧ B 124 9 = nI m ∧ (∀ i, i < m → ∃ j, j < 16 ∧ A 24 i = nI j) ∧ ∀ i, i < m → ∃ j, j < 16 ∧ B 132 i = nI j) ∧ (A 22 3 = 0 ∨ A 22 3 = 1) ∧ (B 124 10 = 0 ∨ B 124 10 = 1) := by
  obtain ⟨m, q1, q2, q3, q4, q5⟩ := h.2.2
  refine ⟨⟨m, q1.1, q2, q3, fun i hi => ?_, fun i hi => ?_⟩, q1.2.1, by rw [q4]; exact q1.2.1⟩
  · obtain ⟨j, j1, j2, _⟩ := q1.2.2.2.1 i hi; exact ⟨j, j1, j2⟩
  · obtain ⟨j, j1, j2, _⟩ := q1.2.2.2.1 i hi; exact ⟨j, j1, by rw [← (q5 i hi).2]; exact j2⟩
theorem REL.len {A B : DI} {K M : DJ} (h : REL A K B M) : (∀ i, i < 16 → ∃ q, q ≤ 60 ∧ A 21 i = nI q) ∧ ∀ i, i < 16 → ∃ q, q ≤ 60 ∧ B 129 i = nI q :=
  ⟨fun i hi => by obtain ⟨q, a, b, _⟩ := h.1.1 i hi; exact ⟨q, a, b⟩, fun i hi => by obtain ⟨q, a, _, c, _⟩ := h.1.1 i hi; exact ⟨q, a, c⟩⟩
theorem REL.par {A B : DI} {K M : DJ} (h : REL A K B M) : (∀ i, i < 16 → ∃ j, j < 16 ∧ A 3 i = nI j) ∧ B 127 0 = -1 ∧ (∀ i, 1 ≤ i → i < 16 → ∃ j, j < 16 ∧ B 127 i = nI j) ∧ ∀ i, i < 16 → ¬ B 125 i = 0 → zro (B 127) 16 i := by
  have hT := h.2.1
  refine ⟨hT.1.2.1, hT.2.2.1, fun i hi1 hi => by rw [← hT.2.2.2 i hi1 hi]; exact hT.1.2.1 i hi, fun i hi hs => zro_up 15 i (zro_c hT.cl hT.2.2.2 15 i hi (hT.1.2.2.1 i hi ?_))⟩
  rw [hT.2.1 i hi]; exact fun q => hs (mst_0.mp q)
theorem REL.idx {A B : DI} {K M : DJ} (h : REL A K B M) : (∀ i, i < 16 → A 27 i = 0 ∨ A 27 i = 1) ∧ (∀ i, i < 16 → B 133 i = 0 ∨ B 133 i = 1) ∧ (∀ e, e < 16 → ∃ m, m ≤ 30 ∧ A (28 + 3 * e) 2 = nI m) ∧ ∀ e, e < 16 → ∃ m, m ≤ 30 ∧ B 134 e = nI m := by
  obtain ⟨_, _, h3, h4⟩ := h.1.2.1
  exact ⟨fun i hi => (h3 i hi).2, fun i hi => by rw [← (h3 i hi).1]; exact (h3 i hi).2, fun e he => by obtain ⟨m, a, b, _⟩ := h4 e he; exact ⟨m, a, b⟩, fun e he => by obtain ⟨m, a, _, c, _⟩ := h4 e he; exact ⟨m, a, c⟩⟩
theorem REL.qry {A B : DI} {K M : DJ} (h : REL A K B M) : ∃ n, n ≤ 40 ∧ A 76 1 = nI n ∧ B 124 18 = nI n ∧ Chr (B 138) n := by
  obtain ⟨n, a, b, c, d⟩ := h.1.2.2.1
  exact ⟨n, a, b, c, fun i hi => by rw [← (d i hi).1]; exact (d i hi).2⟩
theorem REL.rsl {A B : DI} {K M : DJ} (h : REL A K B M) : ∃ q, q ≤ 16 ∧ A 121 2 = nI q ∧ B 124 33 = nI q := by
  obtain ⟨n, a, b, c, d⟩ := h.1.2.2.2.2
  exact ⟨n, a, b, c⟩

/-! ===== terms that were found are right ===== -/
def WOk (c : Nat → Int32) (n : Nat) (w : Nat × Nat) : Prop := 1 ≤ w.2 ∧ w.2 ≤ 8 ∧ w.1 + w.2 ≤ n ∧ ∀ i, i < w.2 → isLt (c (w.1 + i)) = true
theorem isLt_nx {c : Nat → Int32} {n a : Nat} (h : isLt (nx c n a) = true) : a < n ∧ isLt (c a) = true := by
  rcases Nat.lt_or_ge a n with h9 | h9
  · rw [nx_lt h9] at h; exact ⟨h9, h⟩
  · rw [nx_ge (by omega)] at h; exact absurd h (by decide)
theorem lcn_L {c : Nat → Int32} {n : Nat} : ∀ k a i, i < lcn c n a k → isLt (nx c n (a + i)) = true
  | 0, a, i, h => by cases h
  | k + 1, a, i, h => by
    rw [lcn_s] at h
    by_cases h1 : isLt (nx c n a) = true
    · rw [if_pos h1] at h
      cases i with
      | zero => exact h1
      | succ i =>
        have := lcn_L (c := c) (n := n) k (a + 1) i (by omega)
        rwa [show a + 1 + i = a + (i + 1) by omega] at this
    · rw [if_neg h1] at h; cases h
theorem WOk.of {c : Nat → Int32} {n a : Nat} (ha : a ≤ n) (h : badW c n a = false) : WOk c n (a, lcn c n a 8) := by
  simp only [badW, Bool.or_eq_false_iff, decide_eq_false_iff_not] at h
  exact ⟨Nat.pos_of_ne_zero h.1, lcn_le c n 8 a, lcn_n 8 a ha, fun i hi => (isLt_nx (lcn_L 8 a i hi)).2⟩
def TOk (c : Nat → Int32) (n : Nat) (t : TT) : Prop := (1 ≤ t.2.2.2.length ∧ t.2.2.2.length ≤ 4) ∧ (∀ w ∈ t.2.2.2, WOk c n w) ∧ (t.2.2.1 = true → t.2.2.2.length = 1)
theorem phF_ok {c : Nat → Int32} {n : Nat} : ∀ k a ws, ws.length + k ≤ 4 → (∀ w ∈ ws, WOk c n w) → a ≤ n → (phF c n k a ws).2.2.length ≤ 4 ∧ ∀ w ∈ (phF c n k a ws).2.2, WOk c n w
  | 0, a, ws, h1, h2, _ => ⟨h1, h2⟩
  | k + 1, a, ws, h1, h2, h3 => by
    rw [phF_s]
    by_cases h4 : isLt (nx c n a) = true
    · rw [if_pos h4]
      by_cases h5 : badW c n a = true
      · rw [if_pos h5]; exact ⟨by simp only; omega, h2⟩
      · rw [if_neg h5]
        refine phF_ok k _ _ (by simp; omega) ?_ (skb_le (lcn_n 8 a h3)).2
        intro w hw
        rw [List.mem_append] at hw
        rcases hw with hw | hw
        · exact h2 w hw
        · rw [List.mem_singleton] at hw
          rw [hw]
          exact WOk.of h3 (by simpa using h5)
    · rw [if_neg h4]; exact ⟨by simp only; omega, h2⟩
theorem phr_ok {c : Nat → Int32} {n a : Nat} (ha : a ≤ n) {p : Nat × List (Nat × Nat)} (h : phr c n a = .inr p) : (1 ≤ p.2.length ∧ p.2.length ≤ 4) ∧ ∀ w ∈ p.2, WOk c n w := by
  have k := phF_ok (c := c) (n := n) 4 (skb c n a) [] (by simp) (by simp) (skb_le ha).2
  unfold phr at h
  cases hp : (phF c n 4 (skb c n a) []).1 with
  | some f => rw [hp] at h; cases h
  | none =>
    rw [hp] at h
    simp only at h
    by_cases h3 : (phF c n 4 (skb c n a) []).2.2 = [] ∨ ¬ nx c n (phF c n 4 (skb c n a) []).2.1 = 34
    · rw [if_pos h3] at h; cases h
    · rw [if_neg h3] at h
      cases h
      refine ⟨⟨?_, k.1⟩, k.2⟩
      simp only
      exact List.length_pos_iff.mpr (fun h9 => h3 (Or.inl h9))
theorem trm_ok {c : Nat → Int32} {n a g : Nat} (ha : a ≤ n) {p : Nat × Bool × Bool × List (Nat × Nat)} (h : trm c n a = .inr p) : TOk c n (g, p.2) := by
  have fin : ∀ b neg pre ws, TOk c n (g, neg, pre, ws) → trE c n b neg pre ws = .inr p → TOk c n (g, p.2) := by
    intro b neg pre ws h1 h3
    unfold trE at h3
    by_cases h4 : okE c n b = true
    · rw [if_pos h4] at h3; cases h3; exact h1
    · rw [if_neg h4] at h3; cases h3
  have body : ∀ b neg, b ≤ n → trB c n b neg = .inr p → TOk c n (g, p.2) := by
    intro b neg h2 h3
    unfold trB at h3
    by_cases h4 : nx c n b = 34
    · rw [if_pos h4] at h3
      cases hp : phr c n (b + 1) with
      | inl f => rw [hp] at h3; cases h3
      | inr q =>
        rw [hp] at h3
        have h6 := phr_ok (isQ_lt h4) hp
        exact fin _ _ _ _ ⟨h6.1, h6.2, fun h9 => by cases h9⟩ h3
    · rw [if_neg h4] at h3
      by_cases h5 : badW c n b = true
      · rw [if_pos h5] at h3; cases h3
      · rw [if_neg h5] at h3
        refine fin _ _ _ _ ⟨⟨Nat.le_refl _, Nat.le_of_ble_eq_true rfl⟩, fun w hw => ?_, fun _ => rfl⟩ h3
        rw [List.mem_singleton] at hw
        rw [hw]
        exact WOk.of h2 (by simpa using h5)
  unfold trm at h
  by_cases h1 : nx c n a = 45
  · rw [if_pos h1] at h
    exact body _ _ (isQ_lt h1) h
  · rw [if_neg h1] at h
    exact body _ _ ha h
theorem TOk.snoc {c : Nat → Int32} {n : Nat} {ts : List TT} {t : TT} (h : ∀ t ∈ ts, TOk c n t) (h1 : TOk c n t) : ∀ u ∈ ts ++ [t], TOk c n u := by
  intro u hu
  rw [List.mem_append] at hu
  rcases hu with hu | hu
  · exact h u hu
  · rw [List.mem_singleton] at hu; rw [hu]; exact h1
theorem altF_ok {c : Nat → Int32} {n g : Nat} : ∀ k a ts, a ≤ n → (∀ t ∈ ts, TOk c n t) → ∀ q, altF c n g k a ts = .inr q → (∀ t ∈ q.2, TOk c n t) ∧ q.1 ≤ n
  | 0, a, ts, ha, h, q, hq => by cases hq; exact ⟨h, ha⟩
  | k + 1, a, ts, ha, h, q, hq => by
    rw [altF_s] at hq
    cases htr : trm c n a with
    | inl f => rw [htr] at hq; cases hq
    | inr p =>
      rw [htr] at hq
      have h1 := TOk.snoc (t := (g, p.2)) h (trm_ok ha htr)
      have h2 := (trm_le ha htr).2.1
      simp only at hq
      by_cases h3 : altE c n p.1 = true
      · rw [if_pos h3] at hq; cases hq; exact ⟨h1, h2⟩
      · rw [if_neg h3] at hq; exact altF_ok k _ _ h2 h1 q hq
theorem prsF_ok {c : Nat → Int32} {n : Nat} : ∀ k a ts g, a ≤ n → (∀ t ∈ ts, TOk c n t) → ∀ q, prsF c n k a ts g = .inr q → (∀ t ∈ q.1, TOk c n t) ∧ q.2 ≤ g + k
  | 0, a, ts, g, ha, h, q, hq => by cases hq; exact ⟨h, Nat.le_refl _⟩
  | k + 1, a, ts, g, ha, h, q, hq => by
    rw [prsF_s] at hq
    cases hal : altF c n g 41 (skb c n a) ts with
    | inl f => rw [hal] at hq; cases hq
    | inr p =>
      rw [hal] at hq
      have h1 := altF_ok _ _ _ (skb_le ha).2 h p hal
      simp only at hq
      by_cases h3 : nx c n p.1 = 124
      · rw [if_pos h3] at hq
        have := prsF_ok k _ _ _ (isQ_lt h3) h1.1 q hq
        exact ⟨this.1, by omega⟩
      · rw [if_neg h3] at hq; cases hq; exact ⟨h1.1, by simp only; omega⟩
/-- how many words a term has -/
def szT (ts : List TT) (i : Nat) : Nat := (ts.getD i (0, false, false, [])).2.2.2.length
theorem TsH.o {c : Nat → Int32} {n : Nat} {ts : List TT} {I : DI} {J : DJ} (h : TsH c ts I J) (ho : ∀ t ∈ ts, TOk c n t) : TmO I ts.length (szT ts) := by
  intro i hi
  have h1 : ts[i]? = some ts[i] := List.getElem?_eq_getElem hi
  obtain ⟨t1, t2, t3, t4, t5⟩ := h i _ h1
  have h2 := ho _ (List.getElem_mem hi)
  have h3 : szT ts i = ts[i].2.2.2.length := by unfold szT; rw [List.getD_eq_getElem?_getD, h1]; rfl
  rw [h3]
  exact ⟨t1, h2.1.1, h2.1.2, by rw [t3]; exact bI01 _⟩

/-! ===== TERMS AND ALTERNATIVES, as lists ===== -/
theorem skb_id {c : Nat → Int32} {n a : Nat} (h : ¬ nx c n a = 32) : skb c n a = a ∨ n ≤ a := by
  rcases Nat.lt_or_ge a n with h9 | h9
  · left
    unfold skb
    rw [show n - a = (n - a - 1) + 1 by omega, skF_s, if_neg (by rw [nx_lt h9] at h; exact h)]
  · right
    exact h9
theorem skb_n {c : Nat → Int32} {n a : Nat} (h : n ≤ a) : skb c n a = a := by
  unfold skb
  rw [show n - a = 0 by omega]
  rfl
theorem phr_le {c : Nat → Int32} {n a : Nat} (ha : a ≤ n) {p : Nat × List (Nat × Nat)} (h : phr c n a = .inr p) : a ≤ p.1 ∧ p.1 ≤ n := by
  have key : ∀ k b ws, b ≤ n → (phF c n k b ws).1 = none → b ≤ (phF c n k b ws).2.1 := by
    intro k
    induction k with
    | zero => intro b ws _ _; exact Nat.le_refl _
    | succ k ih =>
      intro b ws hb h1
      rw [phF_s] at h1 ⊢
      by_cases h2 : isLt (nx c n b) = true
      · rw [if_pos h2] at h1 ⊢
        by_cases h3 : badW c n b = true
        · rw [if_pos h3] at h1; cases h1
        · rw [if_neg h3] at h1 ⊢
          have h4 := skb_le (c := c) (lcn_n (c := c) 8 b hb)
          have := ih _ _ h4.2 h1
          omega
      · rw [if_neg h2]; exact Nat.le_refl _
  unfold phr at h
  cases hp : (phF c n 4 (skb c n a) []).1 with
  | some f => rw [hp] at h; cases h
  | none =>
    rw [hp] at h
    simp only at h
    have h1 := key 4 (skb c n a) [] (skb_le ha).2 hp
    have h2 := (skb_le (c := c) ha).1
    by_cases h3 : (phF c n 4 (skb c n a) []).2.2 = [] ∨ ¬ nx c n (phF c n 4 (skb c n a) []).2.1 = 34
    · rw [if_pos h3] at h; cases h
    · rw [if_neg h3] at h
      cases h
      have h4 : nx c n (phF c n 4 (skb c n a) []).2.1 = 34 := by
        by_cases h5 : nx c n (phF c n 4 (skb c n a) []).2.1 = 34
        · exact h5
        · exact absurd (Or.inr h5) h3
      exact ⟨by simp only; omega, isQ_lt h4⟩
def altE (c : Nat → Int32) (n a : Nat) : Bool := decide (nx c n a = 0) || decide (nx c n a = 124)
/-- a term that is right ends behind its beginning; more than that, unless an alternative ends there -/
theorem trm_le {c : Nat → Int32} {n a : Nat} (ha : a ≤ n) {p : Nat × Bool × Bool × List (Nat × Nat)} (h : trm c n a = .inr p) : a + 1 ≤ p.1 ∧ p.1 ≤ n ∧ (altE c n p.1 = true ∨ a + 2 ≤ p.1) := by
  have fin : ∀ b neg pre ws, a + 1 ≤ b → b ≤ n → trE c n b neg pre ws = .inr p → a + 1 ≤ p.1 ∧ p.1 ≤ n ∧ (altE c n p.1 = true ∨ a + 2 ≤ p.1) := by
    intro b neg pre ws h1 h2 h3
    unfold trE at h3
    by_cases h4 : okE c n b = true
    · rw [if_pos h4] at h3
      cases h3
      have h5 := skb_le (c := c) h2
      refine ⟨by simp only; omega, h5.2, ?_⟩
      simp only
      by_cases h6 : nx c n b = 32
      · right
        have hlt : b < n := by have := isQ_lt h6; omega
        have : skb c n b = skb c n (b + 1) := by
          unfold skb
          rw [show n - b = (n - (b + 1)) + 1 by omega, skF_s, if_pos (by rw [nx_lt hlt] at h6; exact h6)]
        have := (skb_le (c := c) (show b + 1 ≤ n by omega)).1
        omega
      · left
        have h7 : altE c n b = true := by
          unfold okE at h4
          unfold altE
          simpa [h6] using h4
        rcases skb_id h6 with h8 | h8
        · rw [h8]; exact h7
        · rw [skb_n h8]; exact h7
    · rw [if_neg h4] at h3; cases h3
  have body : ∀ b neg, a ≤ b → b ≤ n → trB c n b neg = .inr p → a + 1 ≤ p.1 ∧ p.1 ≤ n ∧ (altE c n p.1 = true ∨ a + 2 ≤ p.1) := by
    intro b neg h1 h2 h3
    unfold trB at h3
    by_cases h4 : nx c n b = 34
    · rw [if_pos h4] at h3
      have h5 := isQ_lt h4
      cases hp : phr c n (b + 1) with
      | inl f => rw [hp] at h3; cases h3
      | inr q =>
        rw [hp] at h3
        have h6 := phr_le h5 hp
        exact fin _ _ _ _ (by omega) h6.2 h3
    · rw [if_neg h4] at h3
      by_cases h5 : badW c n b = true
      · rw [if_pos h5] at h3; cases h3
      · rw [if_neg h5] at h3
        have h6 : ¬ lcn c n b 8 = 0 := by
          intro h9
          apply h5
          unfold badW
          rw [h9]
          rfl
        have h7 := lcn_n (c := c) 8 b h2
        refine fin _ _ _ _ ?_ ?_ h3
        · split <;> omega
        · by_cases h9 : nx c n (b + lcn c n b 8) = 42
          · rw [if_pos h9]; exact isQ_lt h9
          · rw [if_neg h9]; exact h7
  unfold trm at h
  by_cases h1 : nx c n a = 45
  · rw [if_pos h1] at h
    exact body _ _ (by omega) (isQ_lt h1) h
  · rw [if_neg h1] at h
    exact body _ _ (Nat.le_refl _) ha h
abbrev TT : Type := Nat × Bool × Bool × List (Nat × Nat)
def altF (c : Nat → Int32) (n g : Nat) : Nat → Nat → List TT → Nat ⊕ (Nat × List TT)
  | 0, a, ts => .inr (a, ts)
  | k + 1, a, ts => match trm c n a with
    | .inl f => .inl f
    | .inr p => if altE c n p.1 then .inr (p.1, ts ++ [(g, p.2)]) else altF c n g k p.1 (ts ++ [(g, p.2)])
def prsF (c : Nat → Int32) (n : Nat) : Nat → Nat → List TT → Nat → Nat ⊕ (List TT × Nat)
  | 0, _, ts, g => .inr (ts, g)
  | k + 1, a, ts, g => match altF c n g 41 (skb c n a) ts with
    | .inl f => .inl f
    | .inr q => if nx c n q.1 = 124 then prsF c n k (q.1 + 1) q.2 (g + 1) else .inr (q.2, g + 1)
/-- the frame of the parsing -/
def FrP (I : DI) (J : DJ) (I' : DI) (J' : DJ) : Prop := (∀ b, b ≠ 76 → (b < 79 ∨ 120 < b) → I' b = I b) ∧ (∀ j, j ≠ 3 → j ≠ 4 → j ≠ 5 → j ≠ 6 → I' 76 j = I 76 j) ∧ (∀ b, (b < 79 ∨ 120 < b) → J' b = J b)
theorem FrP.rf {I : DI} {J : DJ} : FrP I J I J := ⟨fun _ _ _ => rfl, fun _ _ _ _ _ => rfl, fun _ _ => rfl⟩
theorem FrP.trans {I I1 I2 : DI} {J J1 J2 : DJ} (h : FrP I J I1 J1) (g : FrP I1 J1 I2 J2) : FrP I J I2 J2 :=
  ⟨fun b b1 b2 => (g.1 b b1 b2).trans (h.1 b b1 b2), fun j j1 j2 j3 j4 => (g.2.1 j j1 j2 j3 j4).trans (h.2.1 j j1 j2 j3 j4), fun b b1 => (g.2.2 b b1).trans (h.2.2 b b1)⟩
theorem FrA.p {i : Nat} {I I' : DI} {J J' : DJ} (hi : i < 21) (h : FrA i I J I' J') : FrP I J I' J' := ⟨fun b b1 b2 => h.1 b b1 (by omega), fun j j1 _ j3 j4 => h.2.1 j j1 j3 j4, fun b b1 => h.2.2.2 b (by omega) (by omega)⟩
theorem FrP.q {I : DI} {J : DJ} (k : Nat) (x : Int32) (hk : k = 3 ∨ k = 4 ∨ k = 5 ∨ k = 6) : FrP I J (u2 I 76 k x) J := ⟨fun b b1 _ => by rw [u2_o b1], fun j j1 j2 j3 j4 => by rw [u2_n (Or.inr (by omega))], fun _ _ => rfl⟩
theorem FrP.c {I0 I : DI} {J0 J : DJ} (h : FrP I0 J0 I J) : I 77 = I0 77 := h.1 77 (by decide) (by decide)
theorem FrP.n {I0 I : DI} {J0 J : DJ} (h : FrP I0 J0 I J) : I 76 1 = I0 76 1 := h.2.1 1 (by decide) (by decide) (by decide) (by decide)
/-- these terms stand in the query's cells -/
def TsH (c : Nat → Int32) (ts : List TT) (I : DI) (J : DJ) : Prop := ∀ j t, ts[j]? = some t → TmH c j t.1 t.2.1 t.2.2.1 t.2.2.2 I J
theorem TmH.keep {c : Nat → Int32} {j g : Nat} {neg pre : Bool} {ws : List (Nat × Nat)} {I I' : DI} {J J' : DJ} (h : TmH c j g neg pre ws I J) (h1 : I' (79 + 2 * j) = I (79 + 2 * j)) (h2 : J' (79 + 2 * j) = J (79 + 2 * j)) (h3 : J' (80 + 2 * j) = J (80 + 2 * j)) : TmH c j g neg pre ws I' J' := by
  unfold TmH at h ⊢
  rw [h1, h2, h3]
  exact h
theorem TsH.add {c : Nat → Int32} {ts : List TT} {I I' : DI} {J J' : DJ} {g : Nat} {neg pre : Bool} {ws : List (Nat × Nat)} (hi : ts.length < 21) (h : TsH c ts I J) (hf : FrA ts.length I J I' J') (ht : TmH c ts.length g neg pre ws I' J') : TsH c (ts ++ [(g, neg, pre, ws)]) I' J' := by
  intro j t hj
  by_cases hl : j < ts.length
  · rw [List.getElem?_append_left hl] at hj
    exact (h j t hj).keep (hf.1 _ (by omega) (by omega)) (hf.2.2.2 _ (by omega) (by omega)) (hf.2.2.2 _ (by omega) (by omega))
  · rw [List.getElem?_append_right (by omega)] at hj
    have hz : j - ts.length < 1 := (List.getElem?_eq_some_iff.mp hj).1
    rw [show j - ts.length = 0 by omega] at hj
    cases hj
    rw [show j = ts.length by omega]
    exact ht
theorem TsH.q {c : Nat → Int32} {ts : List TT} {I : DI} {J : DJ} (k : Nat) (x : Int32) (h : TsH c ts I J) : TsH c ts (u2 I 76 k x) J := fun j t hj => (h j t hj).keep (u2_o (by omega)) rfl rfl
/-- the parsing's state: n characters, at a, these terms, g alternatives */ -/
def PaS (I0 : DI) (J0 : DJ) (a g : Nat) (ts : List TT) (I : DI) (J : DJ) : Prop := FrP I0 J0 I J ∧ I 76 3 = nI ts.length ∧ I 76 4 = nI g ∧ I 76 5 = nI a ∧ I 76 6 = -1 ∧ TsH (I0 77) ts I J
